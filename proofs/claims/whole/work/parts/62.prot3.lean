/-! the mathematics of tags: a tick keeps it -/
def s_two (P P1 : Po) : Prop := s_pg P.2.2.1 P.1 P.2.1 P1.1 P1.2.1 ∧ s_pg P1.2.2.1 P1.1 P1.2.1 P.1 P.2.1 ∧ (∀ y ∈ P.1, s_eok y) ∧ (∀ y ∈ P.2.1, s_eok y) ∧ (∀ y ∈ P1.1, s_eok y) ∧ ∀ y ∈ P1.2.1, s_eok y
theorem s_two.sw {P P1 : Po} (h : s_two P P1) : s_two P1 P := ⟨h.2.1, h.1, h.2.2.2.2.1, h.2.2.2.2.2, h.2.2.1, h.2.2.2.1⟩
theorem s_work_pg {now rm sp : Nat} {Q1 H1 : List Tx} {T1 : Tg} (hsp : 1 ≤ sp) : ∀ (R K Q : List Tx) (T : Tg) (mem : Nat → Int32), s_cnt 3 Q ≤ rm → (∀ y ∈ Q, s_eok y) → (∀ y ∈ K ++ R, s_eok y) → s_pg T Q (K ++ R) Q1 H1 → s_pg T1 Q1 H1 Q (K ++ R) →
    s_wok now rm sp R (Q, T, mem) ∧ s_pg (s_work now rm sp R (Q, T, mem)).2.2.1 (s_work now rm sp R (Q, T, mem)).2.1 (K ++ (s_work now rm sp R (Q, T, mem)).1) Q1 H1 ∧ s_pg T1 Q1 H1 (s_work now rm sp R (Q, T, mem)).2.1 (K ++ (s_work now rm sp R (Q, T, mem)).1) ∧ (∀ y ∈ (s_work now rm sp R (Q, T, mem)).2.1, s_eok y) ∧ (∀ y ∈ K ++ (s_work now rm sp R (Q, T, mem)).1, s_eok y) ∧ s_cnt 3 (s_work now rm sp R (Q, T, mem)).2.1 ≤ rm ∧ ∀ k, k ≠ 3 → s_cnt k (s_work now rm sp R (Q, T, mem)).2.1 = s_cnt k Q
  | [], K, Q, T, mem, hr, hQ, hH, hA, hB => ⟨trivial, hA, hB, hQ, hH, hr, fun k _ => rfl⟩
  | x :: R, K, Q, T, mem, hr, hQ, hH, hA, hB => by
    have hx := hH x s_mem_mid
    by_cases c : tM x ≤ now
    · rw [s_wok, if_pos c, s_work, if_pos c]
      dsimp only
      obtain ⟨a1, a2, a3, a4, a5, a6, a7⟩ := s_one_pg (now := now) (rm := rm) (sp := sp) (mem := mem) hsp hr hx hx.2.2.2 hA hB hQ
      generalize s_one now rm sp x (Q, T, mem) = S at *
      cases hf : S.1 with
      | true =>
        rw [hf, if_pos rfl] at a2 a3
        obtain ⟨b1, b2, b3, b4, b5, b6, b7⟩ := s_work_pg hsp R K S.2.2.1 S.2.2.2.1 S.2.2.2.2 a6 a4 (fun y hy => hH y (s_mem_er y hy)) a2 a3
        rw [if_pos rfl]
        exact ⟨⟨a1, b1⟩, b2, b3, b4, b5, b6, fun k hk => (b7 k hk).trans (a7 k hk)⟩
      | false =>
        rw [hf, if_neg Bool.noConfusion] at a2 a3
        have e : K ++ S.2.1 :: R = (K ++ [S.2.1]) ++ R := by simp
        rw [e] at a2 a3
        obtain ⟨b1, b2, b3, b4, b5, b6, b7⟩ := s_work_pg hsp R (K ++ [S.2.1]) S.2.2.1 S.2.2.2.1 S.2.2.2.2 a6 a4 (fun y hy => by
          rw [← e] at hy
          rcases s_mem_set (x := x) y hy with h | h
          · rw [h]; exact a5 hf
          · exact hH y h) a2 a3
        rw [if_neg Bool.noConfusion]
        have e2 : K ++ S.2.1 :: (s_work now rm sp R S.2.2).1 = (K ++ [S.2.1]) ++ (s_work now rm sp R S.2.2).1 := by simp
        rw [e2]
        exact ⟨⟨a1, b1⟩, b2, b3, b4, b5, b6, fun k hk => (b7 k hk).trans (a7 k hk)⟩
    · rw [s_wok, if_neg c, s_work, if_neg c]
      dsimp only
      have e : K ++ x :: R = (K ++ [x]) ++ R := by simp
      rw [e] at hA hB hH
      have e2 : K ++ x :: (s_work now rm sp R (Q, T, mem)).1 = (K ++ [x]) ++ (s_work now rm sp R (Q, T, mem)).1 := by simp
      rw [e2]
      exact s_work_pg hsp R (K ++ [x]) Q T mem hr hQ hH hA hB
theorem s_wkp_two {now rm sp : Nat} {P P1 : Po} (hsp : 1 ≤ sp) (h : s_two P P1) (hr : s_cnt 3 P.1 ≤ rm) : s_wok now rm sp P.2.1 (P.1, P.2.2.1, P.2.2.2.1) ∧ s_two (s_wkp now rm sp P) P1 ∧ s_cnt 3 (s_wkp now rm sp P).1 ≤ rm ∧ ∀ k, k ≠ 3 → s_cnt k (s_wkp now rm sp P).1 = s_cnt k P.1 := by
  obtain ⟨h1, h2, h3, h4, h5, h6⟩ := h
  obtain ⟨b1, b2, b3, b4, b5, b6, b7⟩ := s_work_pg (now := now) (rm := rm) hsp P.2.1 [] P.1 P.2.2.1 P.2.2.2.1 hr h3 h4 h1 h2
  exact ⟨b1, ⟨b2, b3, b4, b5, h5, h6⟩, b6, b7⟩
theorem s_rq_er (t : Nat) : ∀ (l : List Tx) (p : Nat) (x : Tx), l[p]? = some x → s_rq t (l.eraseIdx p) + s_rw t x = s_rq t l
  | [], p, x, h => by simp at h
  | y :: r, 0, x, h => by
    have : y = x := by simpa using h
    subst this
    rw [List.eraseIdx_cons_zero, s_rq]; omega
  | y :: r, p + 1, x, h => by
    have := s_rq_er t r p x (by simpa using h)
    rw [List.eraseIdx_cons_succ, s_rq, s_rq]; omega
theorem s_cw_er (t : Nat) : ∀ (l : List Tx) (p : Nat) (x : Tx), l[p]? = some x → s_cw t (l.eraseIdx p) + s_cx t x = s_cw t l
  | [], p, x, h => by simp at h
  | y :: r, 0, x, h => by
    have : y = x := by simpa using h
    subst this
    rw [List.eraseIdx_cons_zero, s_cw]; omega
  | y :: r, p + 1, x, h => by
    have := s_cw_er t r p x (by simpa using h)
    rw [List.eraseIdx_cons_succ, s_cw, s_cw]; omega
theorem s_fwd_two {tb cr : Nat → Nat} {l : List Int32} {now : Nat} {P P1 : Po} (h : s_two P P1) : s_two (s_fwd tb cr l now P P1).2.1 (s_fwd tb cr l now P P1).2.2 ∧ ∀ k, s_cnt k (s_fwd tb cr l now P P1).2.1.1 ≤ s_cnt k P.1 := by
  unfold s_fwd
  cases hn : s_next tb cr P1.2.1 [] P.1 with
  | none => exact ⟨h, fun k => Nat.le_refl _⟩
  | some i =>
    dsimp only
    cases hx : P.1[i]? with
    | none => exact ⟨h, fun k => Nat.le_refl _⟩
    | some x =>
      dsimp only
      obtain ⟨h1, h2, h3, h4, h5, h6⟩ := h
      have hm := List.mem_of_getElem? hx
      generalize now + s_lat l x now + 1 = m
      have hme : ∀ y ∈ P1.2.1 ++ [s_tm x m], y ∈ P1.2.1 ∨ y = s_tm x m := fun z hz => (List.mem_append.mp hz).imp id List.mem_singleton.mp
      have her : ∀ y ∈ P.1.eraseIdx i, y ∈ P.1 := fun y hy => List.mem_of_mem_eraseIdx hy
      have r1 : ∀ t, s_rq t [s_tm x m] = s_rw t x := fun t => rfl
      have r2 : ∀ t, s_cw t [s_tm x m] = s_cx t x := fun t => rfl
      refine ⟨⟨?_, ?_, fun y hy => h3 y (her y hy), h4, h5, fun y hy => ?_⟩, fun k => ?_⟩
      · refine s_pg_mono h1 (fun t _ => ?_) (fun z hz e => ?_) (fun z hz e => Or.inr (Or.inl ⟨z, hz, e, rfl, rfl⟩))
        · have := s_rq_er t P.1 i x hx
          dsimp only
          rw [s_rq_app, r1]; omega
        · rcases hz with hz | hz
          · exact ⟨z, Or.inl (her z hz), e, rfl⟩
          · rcases hme z hz with h | h
            · exact ⟨z, Or.inr h, e, rfl⟩
            · rw [h] at e ⊢; exact ⟨x, Or.inl hm, e, rfl⟩
      · refine s_pg_mono h2 (fun t _ => ?_) (fun z hz e => ⟨z, hz, e, rfl⟩) (fun z hz e => ?_)
        · have := s_cw_er t P.1 i x hx
          dsimp only
          rw [s_cw_app, r2]; omega
        · rcases hz with hz | hz
          · exact Or.inr (Or.inl ⟨z, Or.inl (her z hz), e, rfl, rfl⟩)
          · rcases hme z hz with h | h
            · exact Or.inr (Or.inl ⟨z, Or.inr h, e, rfl, rfl⟩)
            · rw [h] at e ⊢; exact Or.inr (Or.inl ⟨x, Or.inl hm, e, rfl, rfl⟩)
      · rcases hme y hy with h | h
        · exact h6 y h
        · rw [h]; exact h3 x hm
      · have := s_cnt_er k P.1 i x hx
        omega
/-- what holds of every situation -/
def s_inv (pl : Pl) (σ : Si) : Prop := (∀ x ∈ σ.2.1.1, tM x ≤ σ.1) ∧ (∀ x ∈ σ.2.2.1, tM x ≤ σ.1) ∧ (∀ k, k < 4 → s_cnt k σ.2.1.1 ≤ pl.1 k) ∧ (∀ k, k < 4 → s_cnt k σ.2.2.1 ≤ pl.1 (4 + k)) ∧ s_two σ.2.1 σ.2.2
theorem s_inv.tok {pl : Pl} {σ : Si} (hsp : 1 ≤ pl.2.2.2.2.1) (h : s_inv pl σ) : s_tok pl σ := by
  obtain ⟨h1, h2, h3, h4, h5⟩ := h
  exact ⟨(s_wkp_two hsp h5 (h3 3 (by omega))).1, (s_wkp_two hsp h5.sw (h4 3 (by omega))).1, h1, h2, h3 3 (by omega), h4 3 (by omega)⟩
theorem s_inv.tick {pl : Pl} {σ : Si} (hsp : 1 ≤ pl.2.2.2.2.1) (h : s_inv pl σ) : s_inv pl (s_tick pl σ) := by
  obtain ⟨h1, h2, h3, h4, h5⟩ := h
  obtain ⟨-, a2, a3, a4⟩ := s_wkp_two (now := σ.1 + 1) hsp h5 (h3 3 (by omega))
  obtain ⟨-, b2, b3, b4⟩ := s_wkp_two (now := σ.1 + 1) hsp a2.sw (h4 3 (by omega))
  have c := s_fwd_two (tb := pl.2.2.1) (cr := fun k => pl.2.1 (4 + k)) (l := pl.2.2.2.2.2.2.2) (now := σ.1 + 1) b2.sw
  have d := s_fwd_two (tb := pl.2.2.1) (cr := fun k => pl.2.1 (0 + k)) (l := pl.2.2.2.2.2.2.1) (now := σ.1 + 1) c.1.sw
  have q0 := s_wkp_q (room := pl.1 3) (sp := pl.2.2.2.2.1) (now := σ.1 + 1) h1 (by omega)
  have q1 := s_wkp_q (room := pl.1 7) (sp := pl.2.2.2.2.1) (now := σ.1 + 1) h2 (by omega)
  have f0 := s_fwd_q (tb := pl.2.2.1) (cr := fun k => pl.2.1 (4 + k)) (l := pl.2.2.2.2.2.2.2) (now := σ.1 + 1) (P := (s_t1 pl σ).2.1) (P1 := (s_t1 pl σ).2.2)
  have f1 := s_fwd_q (tb := pl.2.2.1) (cr := fun k => pl.2.1 (0 + k)) (l := pl.2.2.2.2.2.2.1) (now := σ.1 + 1) (P := (s_f0 pl (s_t1 pl σ)).2.2.2) (P1 := (s_f0 pl (s_t1 pl σ)).2.2.1)
  have e0 : (s_tick pl σ).2.1.1 = (s_f0 pl (s_t1 pl σ)).2.2.1.1 := f1.2
  have e1 : (s_f0 pl (s_t1 pl σ)).2.2.2.1 = (s_t1 pl σ).2.2.1 := f0.2
  refine ⟨fun x hx => ?_, fun x hx => ?_, fun k hk => ?_, fun k hk => ?_, d.1.sw⟩
  · rw [e0] at hx; exact q0 x (f0.1 x hx)
  · have := f1.1 x hx
    rw [e1] at this
    exact q1 x this
  · rw [e0]
    have h6 : s_cnt k (s_f0 pl (s_t1 pl σ)).2.2.1.1 ≤ s_cnt k (s_t1 pl σ).2.1.1 := c.2 k
    have h7 : s_cnt k (s_t1 pl σ).2.1.1 ≤ pl.1 k := by
      by_cases c3 : k = 3
      · subst c3; exact a3
      · exact Nat.le_trans (Nat.le_of_eq (a4 k c3)) (h3 k hk)
    omega
  · have h6 : s_cnt k (s_tick pl σ).2.2.1 ≤ s_cnt k (s_f0 pl (s_t1 pl σ)).2.2.2.1 := d.2 k
    rw [e1] at h6
    have h7 : s_cnt k (s_t1 pl σ).2.2.1 ≤ pl.1 (4 + k) := by
      by_cases c3 : k = 3
      · subst c3; exact b3
      · exact Nat.le_trans (Nat.le_of_eq (b4 k c3)) (h4 k hk)
    omega
