/-! the mathematics of tags: a target's work keeps it -/
theorem s_pg_mono {T : Tg} {Q H Q1 H1 Q' H' Q1' H1' : List Tx} (h : s_pg T Q H Q1 H1) (hs : ∀ t, t < 8 → s_rq t Q' + s_rq t H1' + s_cw t Q1' + s_cw t H' ≤ s_rq t Q + s_rq t H1 + s_cw t Q1 + s_cw t H)
    (m1 : ∀ x, x ∈ Q' ∨ x ∈ H1' → tK x = 1 → ∃ y, (y ∈ Q ∨ y ∈ H1) ∧ tK y = 1 ∧ tT y = tT x)
    (m3 : ∀ x, x ∈ Q1' ∨ x ∈ H' → tK x = 3 → tW x = 0 ∨ (∃ y, (y ∈ Q1 ∨ y ∈ H) ∧ tK y = 3 ∧ tT y = tT x ∧ tW y = tW x) ∨ ∃ y, (y ∈ Q ∨ y ∈ H1) ∧ tK y = 1 ∧ tT y = tT x) : s_pg T Q' H' Q1' H1' := by
  intro t ht
  obtain ⟨h0, h1, h2, h3⟩ := h t ht
  have hst := hs t ht
  refine ⟨h0, fun e => ?_, fun e => ?_, fun e => ?_⟩
  · have := h1 e; omega
  · have := h2 e; omega
  · obtain ⟨a1, a2, a3, a4⟩ := h3 e
    have k1 : ∀ x, x ∈ Q' ∨ x ∈ H1' → tK x = 1 → tT x ≠ t := fun x hx hk hxt => by
      obtain ⟨y, hy, hyk, hyt⟩ := m1 x hx hk
      rcases hy with hy | hy
      · exact a1 y hy hyk (hyt.trans hxt)
      · exact a2 y hy hyk (hyt.trans hxt)
    have k3 : ∀ x, x ∈ Q1' ∨ x ∈ H' → tK x = 3 → tT x = t → tW x = 0 := fun x hx hk hxt => by
      rcases m3 x hx hk with h | ⟨y, hy, hyk, hyt, hyw⟩ | ⟨y, hy, hyk, hyt⟩
      · exact h
      · rw [← hyw]
        rcases hy with hy | hy
        · exact a3 y hy hyk (hyt.trans hxt)
        · exact a4 y hy hyk (hyt.trans hxt)
      · rcases hy with hy | hy
        · exact absurd (hyt.trans hxt) (a1 y hy hyk)
        · exact absurd (hyt.trans hxt) (a2 y hy hyk)
    exact ⟨fun x hx => k1 x (Or.inl hx), fun x hx => k1 x (Or.inr hx), fun x hx => k3 x (Or.inl hx), fun x hx => k3 x (Or.inr hx)⟩
theorem s_pg_sub {T : Tg} {Q H Q1 H1 H' H1' : List Tx} (h : s_pg T Q H Q1 H1) (hs : ∀ t, t < 8 → s_rq t H1' + s_cw t H' ≤ s_rq t H1 + s_cw t H) (a : ∀ x ∈ H', x ∈ H) (b : ∀ x ∈ H1', x ∈ H1) : s_pg T Q H' Q1 H1' :=
  s_pg_mono h (fun t ht => by have := hs t ht; omega) (fun x hx hk => ⟨x, hx.imp id (b x), hk, rfl⟩) (fun x hx hk => Or.inr (Or.inl ⟨x, hx.imp id (a x), hk, rfl, rfl⟩))
theorem s_mem_er {K R : List Tx} {x : Tx} : ∀ y ∈ K ++ R, y ∈ K ++ x :: R := fun y hy => by
  rcases List.mem_append.mp hy with h | h
  · exact List.mem_append_left _ h
  · exact List.mem_append_right _ (List.mem_cons_of_mem _ h)
theorem s_mem_mid {K R : List Tx} {x : Tx} : x ∈ K ++ x :: R := List.mem_append_right _ List.mem_cons_self
theorem s_rq_mid (t : Nat) (K R : List Tx) (x : Tx) : s_rq t (K ++ x :: R) = s_rq t (K ++ R) + s_rw t x := by rw [s_rq_app, s_rq_app, s_rq]; omega
theorem s_cw_mid (t : Nat) (K R : List Tx) (x : Tx) : s_cw t (K ++ x :: R) = s_cw t (K ++ R) + s_cx t x := by rw [s_cw_app, s_cw_app, s_cw]; omega
theorem s_cx0 {t : Nat} {x : Tx} (h : tK x ≠ 3) : s_cx t x = 0 := if_neg (fun e => h e.1)
theorem s_rw0 {t : Nat} {x : Tx} (h : tK x ≠ 1) (h2 : tK x ≠ 2) : s_rw t x = 0 := if_neg (fun e => e.1.elim h h2)
theorem s_mem_set {K R : List Tx} {x z : Tx} : ∀ y ∈ K ++ z :: R, y = z ∨ y ∈ K ++ x :: R := fun y hy => by
  rcases List.mem_append.mp hy with h | h
  · exact Or.inr (List.mem_append_left _ h)
  · rcases List.mem_cons.mp h with h | h
    · exact Or.inl h
    · exact Or.inr (List.mem_append_right _ (List.mem_cons_of_mem _ h))
theorem s_one_pg {now rm sp : Nat} {x : Tx} {Q K R Q1 H1 : List Tx} {T T1 : Tg} {mem : Nat → Int32} (hsp : 1 ≤ sp) (hrm : s_cnt 3 Q ≤ rm) (hx : s_eok x) (hk4 : tK x < 4) (hA : s_pg T Q (K ++ x :: R) Q1 H1) (hB : s_pg T1 Q1 H1 Q (K ++ x :: R)) (hQ : ∀ y ∈ Q, s_eok y) :
    s_cok x T ∧ s_pg (s_one now rm sp x (Q, T, mem)).2.2.2.1 (s_one now rm sp x (Q, T, mem)).2.2.1 (K ++ (if (s_one now rm sp x (Q, T, mem)).1 then R else (s_one now rm sp x (Q, T, mem)).2.1 :: R)) Q1 H1 ∧ s_pg T1 Q1 H1 (s_one now rm sp x (Q, T, mem)).2.2.1 (K ++ (if (s_one now rm sp x (Q, T, mem)).1 then R else (s_one now rm sp x (Q, T, mem)).2.1 :: R)) ∧ (∀ y ∈ (s_one now rm sp x (Q, T, mem)).2.2.1, s_eok y) ∧ ((s_one now rm sp x (Q, T, mem)).1 = false → s_eok (s_one now rm sp x (Q, T, mem)).2.1) ∧ s_cnt 3 (s_one now rm sp x (Q, T, mem)).2.2.1 ≤ rm ∧ ∀ k, k ≠ 3 → s_cnt k (s_one now rm sp x (Q, T, mem)).2.2.1 = s_cnt k Q := by
  rcases (show tK x = 0 ∨ tK x = 1 ∨ tK x = 2 ∨ tK x = 3 by omega) with hk | hk | hk | hk
  · have e1 : s_one now rm sp x (Q, T, mem) = (true, x, Q, T, s_wr mem (tA x) (tV x)) := by unfold s_one; rw [if_pos hk]
    rw [e1]
    dsimp only
    rw [if_pos rfl]
    refine ⟨fun e => absurd e (by omega), ?_, ?_, hQ, fun e => Bool.noConfusion e, hrm, fun k _ => rfl⟩
    · exact s_pg_sub hA (fun t _ => by rw [s_cw_mid]; omega) s_mem_er (fun y hy => hy)
    · exact s_pg_sub hB (fun t _ => by rw [s_rq_mid]; omega) (fun y hy => hy) s_mem_er
  · obtain ⟨p1, p2⟩ := hx.2.2.1 hk
    obtain ⟨a1, a2, a3, a4, a5, a6⟩ := s_ans_pg (mem := mem) (now := now) (room := rm) hsp hx p2 4 Q (tO x) (by omega)
    have e1 : s_one now rm sp x (Q, T, mem) = (decide (tW x ≤ (s_ans mem now rm sp x 4 Q (tO x)).2), (tK x, tT x, tR x, tA x, tW x, tM x, (s_ans mem now rm sp x 4 Q (tO x)).2, tV x), (s_ans mem now rm sp x 4 Q (tO x)).1, T, mem) := by unfold s_one; rw [if_neg (by omega), if_pos hk]
    rw [e1]
    dsimp only
    generalize (s_ans mem now rm sp x 4 Q (tO x)).1 = Q2 at *
    generalize (s_ans mem now rm sp x 4 Q (tO x)).2 = off at *
    have hk1 : ∀ y ∈ Q2, tK y = 1 → y ∈ Q := fun y hy e => (a4 y hy).elim id (fun h => absurd h.1 (by omega))
    have hrx : ∀ t, s_rw t x = if tT x = t then tW x - tO x else 0 := fun t => by
      unfold s_rw s_w
      by_cases c : tT x = t
      · rw [if_pos ⟨Or.inl hk, c⟩, if_pos hk, if_pos c]
      · rw [if_neg (fun e => c e.2), if_neg c]
    have hq3 : ∀ z, z ∈ Q2 → tK z = 3 → z ∈ Q ∨ tT x = tT z := fun z hz e => (a4 z hz).imp id (fun h => h.2.1.symm)
    refine ⟨fun e => absurd e (by omega), ?_⟩
    by_cases hf : tW x ≤ off
    · rw [if_pos (decide_eq_true hf)]
      refine ⟨?_, ?_, fun y hy => (a4 y hy).elim (hQ y) (fun h => h.2.2), fun e => absurd (decide_eq_true hf) (by rw [e]; exact Bool.noConfusion), a5 hrm, a6⟩
      · refine s_pg_mono hA (fun t _ => by rw [(a3 t).1, s_cw_mid]; omega) (fun z hz e => ⟨z, hz.imp (fun h => hk1 z h e) id, e, rfl⟩) (fun z hz e => Or.inr (Or.inl ⟨z, hz.imp id (s_mem_er z), e, rfl, rfl⟩))
      · refine s_pg_mono hB (fun t _ => ?_) (fun z hz e => ⟨z, hz.imp id (s_mem_er z), e, rfl⟩) (fun z hz e => ?_)
        · rw [(a3 t).2, s_rq_mid, hrx]
          by_cases c : tT x = t
          · rw [if_pos c, if_pos c]; omega
          · rw [if_neg c, if_neg c]; omega
        · rcases hz with hz | hz
          · rcases hq3 z hz e with h | h
            · exact Or.inr (Or.inl ⟨z, Or.inl h, e, rfl, rfl⟩)
            · exact Or.inr (Or.inr ⟨x, Or.inr s_mem_mid, hk, h⟩)
          · exact Or.inr (Or.inl ⟨z, Or.inr hz, e, rfl, rfl⟩)
    · rw [if_neg (by rw [decide_eq_false hf]; exact Bool.noConfusion)]
      have hx2 : ∀ t, s_rw t ((tK x, tT x, tR x, tA x, tW x, tM x, off, tV x) : Tx) = if tT x = t then tW x - off else 0 := fun t => by
        unfold s_rw s_w
        by_cases c : tT x = t
        · rw [if_pos ⟨Or.inl hk, c⟩, if_pos hk, if_pos c]
        · rw [if_neg (fun e => c e.2), if_neg c]
      refine ⟨?_, ?_, fun y hy => (a4 y hy).elim (hQ y) (fun h => h.2.2), fun _ => ⟨hx.1, fun e => absurd (show tK x = 3 from e) (by omega), fun _ => ⟨by show off < tW x; omega, p2⟩, hk4⟩, a5 hrm, a6⟩
      · refine s_pg_mono hA (fun t _ => by rw [(a3 t).1, s_cw_mid, s_cw_mid, s_cx0 (x := x) (by omega), s_cx0 (x := (tK x, tT x, tR x, tA x, tW x, tM x, off, tV x)) (show tK x ≠ 3 by omega)]; omega) (fun z hz e => ⟨z, hz.imp (fun h => hk1 z h e) id, e, rfl⟩) (fun z hz e => ?_)
        rcases hz with hz | hz
        · exact Or.inr (Or.inl ⟨z, Or.inl hz, e, rfl, rfl⟩)
        · rcases s_mem_set z hz with h | h
          · rw [h] at e; exact absurd (show tK x = 3 from e) (by omega)
          · exact Or.inr (Or.inl ⟨z, Or.inr h, e, rfl, rfl⟩)
      · refine s_pg_mono hB (fun t _ => ?_) (fun z hz e => ?_) (fun z hz e => ?_)
        · rw [(a3 t).2, s_rq_mid, s_rq_mid, hrx, hx2]
          by_cases c : tT x = t
          · rw [if_pos c, if_pos c, if_pos c]; omega
          · rw [if_neg c, if_neg c, if_neg c]; omega
        · rcases hz with hz | hz
          · exact ⟨z, Or.inl hz, e, rfl⟩
          · rcases s_mem_set z hz with h | h
            · rw [h]; exact ⟨x, Or.inr s_mem_mid, hk, rfl⟩
            · exact ⟨z, Or.inr h, e, rfl⟩
        · rcases hz with hz | hz
          · rcases hq3 z hz e with h | h
            · exact Or.inr (Or.inl ⟨z, Or.inl h, e, rfl, rfl⟩)
            · exact Or.inr (Or.inr ⟨x, Or.inr s_mem_mid, hk, h⟩)
          · exact Or.inr (Or.inl ⟨z, Or.inr hz, e, rfl, rfl⟩)
  · by_cases hc : s_cnt 3 Q < rm
    · have e1 : s_one now rm sp x (Q, T, mem) = (true, x, Q ++ [s_cmp mem x 0 0 now], T, s_wr mem (tA x) (tV x)) := by unfold s_one; rw [if_neg (by omega), if_neg (by omega), if_pos hk, if_pos hc]
      rw [e1]
      dsimp only
      rw [if_pos rfl]
      have ek : tK (s_cmp mem x 0 0 now) = 3 := rfl
      have hm : ∀ z ∈ Q ++ [s_cmp mem x 0 0 now], z ∈ Q ∨ z = s_cmp mem x 0 0 now := fun z hz => (List.mem_append.mp hz).imp id List.mem_singleton.mp
      have hrx : ∀ t, s_rw t x = if tT x = t then 1 else 0 := fun t => by
        unfold s_rw s_w
        by_cases c : tT x = t
        · rw [if_pos ⟨Or.inr hk, c⟩, if_neg (by omega), if_neg (by omega), if_pos c]
        · rw [if_neg (fun e => c e.2), if_neg c]
      have hcx : ∀ t, s_cx t (s_cmp mem x 0 0 now) = if tT x = t then 1 else 0 := fun t => by
        unfold s_cx s_w
        by_cases c : tT x = t
        · rw [ek, if_pos ⟨rfl, c⟩, if_neg (by decide), if_pos rfl, if_pos c]; rfl
        · rw [if_neg (fun e => c e.2), if_neg c]
      refine ⟨fun e => absurd e (by omega), ?_, ?_, fun y hy => ?_, fun e => Bool.noConfusion e, by rw [s_cnt_app, if_pos ek]; omega, fun k hk3 => by rw [s_cnt_app, ek, if_neg (Ne.symm hk3)]; rfl⟩
      · refine s_pg_mono hA (fun t _ => by rw [s_cw_mid, s_rq_app, s_rq, s_rq, s_rw0 (by rw [ek]; decide) (by rw [ek]; decide)]; omega) (fun z hz e => ?_) (fun z hz e => Or.inr (Or.inl ⟨z, hz.imp id (s_mem_er z), e, rfl, rfl⟩))
        rcases hz with hz | hz
        · rcases hm z hz with h | h
          · exact ⟨z, Or.inl h, e, rfl⟩
          · rw [h] at e; exact absurd (show (3 : Nat) = 1 from e) (by decide)
        · exact ⟨z, Or.inr hz, e, rfl⟩
      · refine s_pg_mono hB (fun t _ => ?_) (fun z hz e => ⟨z, hz.imp id (s_mem_er z), e, rfl⟩) (fun z hz e => ?_)
        · rw [s_rq_mid, s_cw_app, s_cw, s_cw, hrx, hcx]; omega
        · rcases hz with hz | hz
          · rcases hm z hz with h | h
            · exact Or.inr (Or.inl ⟨z, Or.inl h, e, rfl, rfl⟩)
            · rw [h]; exact Or.inl rfl
          · exact Or.inr (Or.inl ⟨z, Or.inr hz, e, rfl, rfl⟩)
      · rcases hm y hy with h | h
        · exact hQ y h
        · rw [h]; exact ⟨hx.1, fun _ => ⟨rfl, by show 0 + 0 ≤ 4; omega⟩, fun e => absurd (show (3 : Nat) = 1 from e) (by decide), by rw [ek]; decide⟩
    · have e1 : s_one now rm sp x (Q, T, mem) = (false, x, Q, T, mem) := by unfold s_one; rw [if_neg (by omega), if_neg (by omega), if_pos hk, if_neg hc]
      rw [e1]
      dsimp only
      rw [if_neg Bool.noConfusion]
      exact ⟨fun e => absurd e (by omega), hA, hB, hQ, fun _ => hx, hrm, fun k _ => rfl⟩
  · have e1 : s_one now rm sp x (Q, T, mem) = (true, x, Q, s_cpl (tT x) (s_sto (tT x) (tO x) (tV x) T), mem) := by unfold s_one; rw [if_neg (by omega), if_neg (by omega), if_neg (by omega)]
    rw [e1]
    dsimp only
    rw [if_pos rfl]
    obtain ⟨q1, q2⟩ := hx.2.1 hk
    obtain ⟨b1, b2, b3, b4⟩ := hA (tT x) hx.1
    obtain ⟨c1, c2, c3, c4, c5⟩ := s_sto_pg (tT x) (tV x) (tO x) T (by omega) b1
    rw [s_cw_mid] at b2 b3
    have hcx : ∀ t, s_cx t x = if tT x = t then max 1 (tW x) else 0 := fun t => by
      unfold s_cx s_w
      by_cases c : tT x = t
      · rw [if_pos ⟨hk, c⟩, if_neg (by omega), if_pos hk, if_pos c]
      · rw [if_neg (fun e => c e.2), if_neg c]
    rw [hcx, if_pos rfl] at b2 b3
    have hst : T.1 (tT x) = 1 := by
      rcases Nat.decEq (T.1 (tT x)) 1 with h | h
      · have := b3 h; omega
      · exact h
    have b2 := b2 hst
    have hz : T.2.1 (tT x) = 0 → tW x = 0 := fun e => (b4 e).2.2.2 x s_mem_mid hk rfl
    refine ⟨fun _ => ⟨by omega, by omega⟩, ?_, ?_, hQ, fun e => Bool.noConfusion e, hrm, fun k _ => rfl⟩
    · intro t ht
      obtain ⟨d1, d2, d3, d4⟩ := hA t ht
      rw [s_cw_mid, hcx] at d2 d3
      have hw : (s_cpl (tT x) (s_sto (tT x) (tO x) (tV x) T)).2.1 = T.2.1 := c2
      have hcm : (s_cpl (tT x) (s_sto (tT x) (tO x) (tV x) T)).2.2.1 = (s_sto (tT x) (tO x) (tV x) T).2.2.1 := rfl
      have d4' : T.2.1 t = 0 → (∀ y ∈ Q, tK y = 1 → tT y ≠ t) ∧ (∀ y ∈ H1, tK y = 1 → tT y ≠ t) ∧ (∀ y ∈ Q1, tK y = 3 → tT y = t → tW y = 0) ∧ ∀ y ∈ K ++ R, tK y = 3 → tT y = t → tW y = 0 := fun e => ⟨(d4 e).1, (d4 e).2.1, (d4 e).2.2.1, fun y hy => (d4 e).2.2.2 y (s_mem_er y hy)⟩
      rw [hw, hcm]
      by_cases c : tT x = t
      · subst c
        rw [if_pos rfl] at d2 d3
        have d2 := d2 hst
        refine ⟨c4, fun e => by omega, fun e => ?_, d4'⟩
        have e2 : ¬ v_pc ((s_sto (tT x) (tO x) (tV x) T).2.2.1 (tT x)) < T.2.1 (tT x) := fun h => e (by
          unfold s_cpl; rw [c2, if_pos h, c1]; exact hst)
        omega
      · rw [if_neg c] at d2 d3
        have hs1 : (s_cpl (tT x) (s_sto (tT x) (tO x) (tV x) T)).1 t = T.1 t := by
          unfold s_cpl
          dsimp only
          by_cases h : v_pc ((s_sto (tT x) (tO x) (tV x) T).2.2.1 (tT x)) < (s_sto (tT x) (tO x) (tV x) T).2.1 (tT x)
          · rw [if_pos h, c1]
          · rw [if_neg h, c1]; exact if_neg (Ne.symm c)
        rw [hs1, c3 t (Ne.symm c)]
        exact ⟨d1, d2, d3, d4'⟩
    · exact s_pg_sub hB (fun t _ => by rw [s_rq_mid]; omega) (fun y hy => hy) s_mem_er
