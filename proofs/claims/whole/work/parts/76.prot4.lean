/-! the mathematics of tags: what comes and what is released keep it -/
theorem s_rq_0 {t : Nat} : ∀ {l : List Tx}, s_rq t l = 0 → (∀ y ∈ l, s_eok y) → ∀ y ∈ l, tK y = 1 → tT y ≠ t
  | x :: r, h, he, y, hy, hk => by
    rw [s_rq] at h
    rcases List.mem_cons.mp hy with e | e
    · subst e
      intro ht
      have h1 := (he y List.mem_cons_self).2.2.1 hk
      have h2 : s_rw t y = tW y - tO y := by unfold s_rw s_w; rw [if_pos ⟨Or.inl hk, ht⟩, if_pos hk]
      omega
    · exact s_rq_0 (by omega) (fun z hz => he z (List.mem_cons_of_mem _ hz)) y e hk
theorem s_cw_0 {t : Nat} : ∀ {l : List Tx}, s_cw t l = 0 → ∀ y ∈ l, tK y = 3 → tT y = t → tW y = 0
  | x :: r, h, y, hy, hk, ht => by
    rw [s_cw] at h
    rcases List.mem_cons.mp hy with e | e
    · subst e
      have h2 : s_cx t y = max 1 (tW y) := by unfold s_cx s_w; rw [if_pos ⟨hk, ht⟩, if_neg (by omega), if_pos hk]
      omega
    · exact s_cw_0 (by omega) y e hk ht
theorem s_two_post {P P1 : Po} {x : Tx} (h : s_two P P1) (hk : tK x = 0) (hx : s_eok x) : s_two (P.1 ++ [x], P.2) P1 := by
  obtain ⟨h1, h2, h3, h4, h5, h6⟩ := h
  have hm : ∀ y ∈ P.1 ++ [x], y ∈ P.1 ∨ y = x := fun z hz => (List.mem_append.mp hz).imp id List.mem_singleton.mp
  refine ⟨?_, ?_, fun y hy => (hm y hy).elim (h3 y) (fun e => by rw [e]; exact hx), h4, h5, h6⟩
  · refine s_pg_mono h1 (fun t _ => ?_) (fun z hz e => ?_) (fun z hz e => Or.inr (Or.inl ⟨z, hz, e, rfl, rfl⟩))
    · dsimp only
      rw [s_rq_app, s_rq, s_rq, s_rw0 (by omega) (by omega)]; omega
    · rcases hz with hz | hz
      · rcases hm z hz with c | c
        · exact ⟨z, Or.inl c, e, rfl⟩
        · rw [c] at e; omega
      · exact ⟨z, Or.inr hz, e, rfl⟩
  · refine s_pg_mono h2 (fun t _ => ?_) (fun z hz e => ⟨z, hz, e, rfl⟩) (fun z hz e => ?_)
    · dsimp only
      rw [s_cw_app, s_cw, s_cw, s_cx0 (by omega)]; omega
    · rcases hz with hz | hz
      · rcases hm z hz with c | c
        · exact Or.inr (Or.inl ⟨z, Or.inl c, e, rfl, rfl⟩)
        · rw [c] at e; omega
      · exact Or.inr (Or.inl ⟨z, Or.inr hz, e, rfl, rfl⟩)
theorem s_two_ask {P P1 : Po} {x : Tx} {t w : Nat} (h : s_two P P1) (ht : t < 8) (hf : P.2.2.1.1 t = 0) (hx : s_eok x) (hk : (tK x = 1 ∧ s_w x ≤ w ∧ w ≠ 0) ∨ (tK x = 2 ∧ w = 0)) (hxt : tT x = t) : s_two (P.1 ++ [x], P.2.1, s_bgn P.2.2.1 t w, P.2.2.2) P1 := by
  obtain ⟨h1, h2, h3, h4, h5, h6⟩ := h
  have hm : ∀ y ∈ P.1 ++ [x], y ∈ P.1 ∨ y = x := fun z hz => (List.mem_append.mp hz).imp id List.mem_singleton.mp
  have hk3 : tK x ≠ 3 := by rcases hk with c | c <;> omega
  refine ⟨?_, ?_, fun y hy => (hm y hy).elim (h3 y) (fun e => by rw [e]; exact hx), h4, h5, h6⟩
  · intro u hu
    obtain ⟨a1, a2, a3, a4⟩ := h1 u hu
    dsimp only
    rw [s_rq_app, s_rq, s_rq]
    by_cases c : u = t
    · subst c
      have a3 := a3 (by omega)
      have e0 : (s_bgn P.2.2.1 u w).1 u = 1 := if_pos rfl
      have e1 : (s_bgn P.2.2.1 u w).2.1 u = w := if_pos rfl
      have e2 : (s_bgn P.2.2.1 u w).2.2.1 u = 0 := if_pos rfl
      rw [e0, e1, e2]
      refine ⟨by decide, fun _ => ?_, fun c => absurd rfl c, fun hw => ⟨fun y hy => ?_, s_rq_0 (by omega) h6, s_cw_0 (by omega), s_cw_0 (by omega)⟩⟩
      · have hv : v_pc 0 = 0 := rfl
        rcases hk with ⟨k1, k2, k3⟩ | ⟨k1, k2⟩
        · have : s_rw u x = s_w x := by unfold s_rw; rw [if_pos ⟨Or.inl k1, hxt⟩]
          omega
        · have : s_rw u x = 1 := by unfold s_rw s_w; rw [if_pos ⟨Or.inr k1, hxt⟩, if_neg (by omega), if_neg (by omega)]
          omega
      · rcases hm y hy with e | e
        · exact s_rq_0 (by omega) h3 y e
        · rw [e]
          intro k1
          rcases hk with ⟨_, _, k3⟩ | ⟨k2, _⟩
          · exact absurd hw k3
          · omega
    · have e0 : (s_bgn P.2.2.1 t w).1 u = P.2.2.1.1 u := if_neg c
      have e1 : (s_bgn P.2.2.1 t w).2.1 u = P.2.2.1.2.1 u := if_neg c
      have e2 : (s_bgn P.2.2.1 t w).2.2.1 u = P.2.2.1.2.2.1 u := if_neg c
      have e3 : s_rw u x = 0 := if_neg (fun e => c (e.2.symm.trans hxt))
      rw [e0, e1, e2, e3]
      refine ⟨a1, fun e => by have := a2 e; omega, fun e => by have := a3 e; omega, fun hw => ⟨fun y hy hy1 => ?_, (a4 hw).2.1, (a4 hw).2.2.1, (a4 hw).2.2.2⟩⟩
      rcases hm y hy with e | e
      · exact (a4 hw).1 y e hy1
      · rw [e, hxt]; exact Ne.symm c
  · refine s_pg_mono h2 (fun t _ => ?_) (fun z hz e => ⟨z, hz, e, rfl⟩) (fun z hz e => ?_)
    · dsimp only
      rw [s_cw_app, s_cw, s_cw, s_cx0 hk3]; omega
    · rcases hz with hz | hz
      · rcases hm z hz with c | c
        · exact Or.inr (Or.inl ⟨z, Or.inl c, e, rfl, rfl⟩)
        · rw [c] at e; exact absurd e hk3
      · exact Or.inr (Or.inl ⟨z, Or.inr hz, e, rfl, rfl⟩)
theorem s_two_rls {P P1 : Po} {t : Nat} (h : s_two P P1) (ht : t < 8) (hf : P.2.2.1.1 t = 2) : s_two (P.1, P.2.1, s_rls P.2.2.1 t, P.2.2.2) P1 := by
  obtain ⟨h1, h2, h3, h4, h5, h6⟩ := h
  refine ⟨?_, h2, h3, h4, h5, h6⟩
  intro u hu
  obtain ⟨a1, a2, a3, a4⟩ := h1 u hu
  dsimp only
  by_cases c : u = t
  · subst c
    have a3 := a3 (by omega)
    have e0 : (s_rls P.2.2.1 u).1 u = 0 := if_pos rfl
    have e1 : (s_rls P.2.2.1 u).2.1 u = 0 := if_pos rfl
    have e2 : (s_rls P.2.2.1 u).2.2.1 u = 0 := if_pos rfl
    rw [e0, e1, e2]
    exact ⟨by decide, fun c => absurd c (by decide), fun _ => a3, fun _ => ⟨s_rq_0 (by omega) h3, s_rq_0 (by omega) h6, s_cw_0 (by omega), s_cw_0 (by omega)⟩⟩
  · have e0 : (s_rls P.2.2.1 t).1 u = P.2.2.1.1 u := if_neg c
    have e1 : (s_rls P.2.2.1 t).2.1 u = P.2.2.1.2.1 u := if_neg c
    have e2 : (s_rls P.2.2.1 t).2.2.1 u = P.2.2.1.2.2.1 u := if_neg c
    rw [e0, e1, e2]
    exact ⟨a1, a2, a3, a4⟩
theorem s_two_0 {P P1 : Po} (h : P.1 = [] ∧ P.2.1 = [] ∧ ∀ t, t < 8 → P.2.2.1.1 t = 0 ∧ P.2.2.1.2.2.1 t = 0) (h' : P1.1 = [] ∧ P1.2.1 = [] ∧ ∀ t, t < 8 → P1.2.2.1.1 t = 0 ∧ P1.2.2.1.2.2.1 t = 0) : s_two P P1 := by
  obtain ⟨a1, a2, a3⟩ := h
  obtain ⟨b1, b2, b3⟩ := h'
  have hn : ∀ y : Tx, y ∈ ([] : List Tx) → False := fun y hy => by simp at hy
  refine ⟨fun t ht => ?_, fun t ht => ?_, by rw [a1]; exact fun y hy => (hn y hy).elim, by rw [a2]; exact fun y hy => (hn y hy).elim, by rw [b1]; exact fun y hy => (hn y hy).elim, by rw [b2]; exact fun y hy => (hn y hy).elim⟩
  · rw [a1, a2, b1, b2, (a3 t ht).1, (a3 t ht).2]
    exact ⟨by decide, fun c => absurd c (by decide), fun _ => rfl, fun _ => ⟨fun y hy => (hn y hy).elim, fun y hy => (hn y hy).elim, fun y hy => (hn y hy).elim, fun y hy => (hn y hy).elim⟩⟩
  · rw [a1, a2, b1, b2, (b3 t ht).1, (b3 t ht).2]
    exact ⟨by decide, fun c => absurd c (by decide), fun _ => rfl, fun _ => ⟨fun y hy => (hn y hy).elim, fun y hy => (hn y hy).elim, fun y hy => (hn y hy).elim, fun y hy => (hn y hy).elim⟩⟩
