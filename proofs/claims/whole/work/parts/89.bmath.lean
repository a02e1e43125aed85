/-! class BridgeText against the statements as mathematics -/
abbrev PLR : Type := (Nat → Int32) × (Nat → Int32) × (Nat → Int32) × (Nat → Int32) × (Nat → Int32) × (Nat → Int32) × Int32 × (Nat → Int32) × (Nat → Int32) × Int32 × Int32 × Int32
abbrev b_PL (E : bz_E) (p : Nat) (r : PLR) : List va_E := b_Plan E p r.1 r.2.1 r.2.2.1 r.2.2.2.1 r.2.2.2.2.1 r.2.2.2.2.2.1 r.2.2.2.2.2.2.1 r.2.2.2.2.2.2.2.1 r.2.2.2.2.2.2.2.2.1 r.2.2.2.2.2.2.2.2.2.1 r.2.2.2.2.2.2.2.2.2.2.1 r.2.2.2.2.2.2.2.2.2.2.2
def d_rep (r : PLR) (D : Pl) : Prop := (∀ k, k < 8 → r.1 k = nI (D.1 k)) ∧ (∀ k, k < 8 → r.2.1 k = nI (D.2.1 k)) ∧ (∀ k, k < 16 → r.2.2.1 k = nI (D.2.2.1 k)) ∧ (∀ k, k < 32 → r.2.2.2.1 k = nI (D.2.2.2.1 k)) ∧ r.2.2.2.2.2.2.2.2.2.2.1 = nI D.2.2.2.2.1 ∧ r.2.2.2.2.2.2.2.2.2.2.2 = nI D.2.2.2.2.2.1 ∧ (r.2.2.2.2.2.2.1 = nI D.2.2.2.2.2.2.1.length ∧ k_it r.2.2.2.2.2.1 D.2.2.2.2.2.2.1) ∧ (r.2.2.2.2.2.2.2.2.2.1 = nI D.2.2.2.2.2.2.2.length ∧ k_it r.2.2.2.2.2.2.2.2.1 D.2.2.2.2.2.2.2)
theorem d_rep.lpl {r : PLR} {D : Pl} (h : d_rep r D) (hd : d_ok D) : s_lpl r.1 r.2.1 r.2.2.1 r.2.2.2.1 r.2.2.2.2.2.1 r.2.2.2.2.2.2.1 r.2.2.2.2.2.2.2.2.1 r.2.2.2.2.2.2.2.2.2.1 r.2.2.2.2.2.2.2.2.2.2.1 r.2.2.2.2.2.2.2.2.2.2.2 D := by
  obtain ⟨h1, h2, h3, h4, h5, h6, h7, h8⟩ := h
  obtain ⟨d1, d2, d3, d4, d5, d6⟩ := hd
  exact ⟨fun k hk => ⟨h1 k hk, (d1 k hk).1, (d1 k hk).2.1, h2 k hk, (d1 k hk).2.2⟩, fun k hk => ⟨h3 k hk, d2 k hk⟩, h4, h5, d3, h6, d4, ⟨h7.1, d5.1, h7.2, d5.2⟩, ⟨h8.1, d6.1, h8.2, d6.2⟩⟩
theorem upd_nI {f : Nat → Int32} {h : Nat → Nat} {j v k : Nat} (hk : f k = nI (h k)) : upd f j (nI v) k = nI (va_up h j v k) := by
  by_cases e : k = j
  · subst e
    rw [upd_eq]
    simp [va_up]
  · rw [upd_ne e]
    unfold va_up
    rw [if_neg e]
    exact hk
theorem t_wd_ne {b : Nat → Nat} {t : Tok} {w v : List Nat} (h : t_wd b t w = true) (hl : w.length ≠ v.length) : t_wd b t v = false := by
  cases hv : t_wd b t v with
  | false => rfl
  | true =>
    have h1 := (t_wd_k h).2
    have h2 := (t_wd_k hv).2
    exact absurd (h1.symm.trans h2) hl
theorem p_set_r {b : Nat → Nat} {n c1 c2 lo hi : Nat} {t : Tok} {z : Nat × Nat} (h : p_set b n c1 c2 lo hi t = .inr z) : z.1 ≠ 0 := by
  unfold p_set at h
  cases e1 : p_num b n 0 (c1 - 1) t with
  | inr y => rw [e1] at h; cases h; have := (p_num_r e1).1; omega
  | inl q1 =>
    rw [e1] at h
    dsimp only at h
    cases e2 : p_num b n 0 (c2 - 1) q1.2 with
    | inr y => rw [e2] at h; cases h; have := (p_num_r e2).1; omega
    | inl q2 =>
      rw [e2] at h
      dsimp only at h
      cases e3 : p_num b n lo hi q2.2 with
      | inr y => rw [e3] at h; cases h; have := (p_num_r e3).1; omega
      | inl q3 => rw [e3] at h; cases h
section PST
variable {b : Nat → Nat} {n : Nat} {D : Pl} {h1 h2 : Bool} {t : Tok}
theorem p_st_b (w : t_wd b t w_buffer = true) : p_stmt b n (D, h1, h2, t) = (match p_set b n 2 4 1 8 (t_nx b n t) with | .inr e => .inr e | .inl q => .inl ((va_up D.1 q.1 q.2.1, D.2), h1, h2, q.2.2)) := by
  unfold p_stmt; rw [if_pos w]
  rfl
theorem p_st_c (w0 : t_wd b t w_buffer = false) (w : t_wd b t w_credit = true) : p_stmt b n (D, h1, h2, t) = (match p_set b n 2 4 0 8 (t_nx b n t) with | .inr e => .inr e | .inl q => .inl ((D.1, va_up D.2.1 q.1 q.2.1, D.2.2), h1, h2, q.2.2)) := by
  unfold p_stmt; dsimp only; rw [w0, if_neg (by decide), if_pos w]
  rfl
theorem p_st_t (w0 : t_wd b t w_buffer = false) (w1 : t_wd b t w_credit = false) (w : t_wd b t w_table = true) : p_stmt b n (D, h1, h2, t) = (match p_set b n 4 4 0 1 (t_nx b n t) with | .inr e => .inr e | .inl q => .inl ((D.1, D.2.1, va_up D.2.2.1 q.1 q.2.1, D.2.2.2), h1, h2, q.2.2)) := by
  unfold p_stmt; dsimp only; rw [w0, if_neg (by decide), w1, if_neg (by decide), if_pos w]
  rfl
theorem p_st_w (w0 : t_wd b t w_buffer = false) (w1 : t_wd b t w_credit = false) (w2 : t_wd b t w_table = false) (w : t_wd b t w_word = true) : p_stmt b n (D, h1, h2, t) = (match p_set b n 2 16 0 9999 (t_nx b n t) with | .inr e => .inr e | .inl q => .inl ((D.1, D.2.1, D.2.2.1, va_up D.2.2.2.1 q.1 q.2.1, D.2.2.2.2), h1, h2, q.2.2)) := by
  unfold p_stmt; dsimp only; rw [w0, if_neg (by decide), w1, if_neg (by decide), w2, if_neg (by decide), if_pos w]
  rfl
theorem p_st_s (w0 : t_wd b t w_buffer = false) (w1 : t_wd b t w_credit = false) (w2 : t_wd b t w_table = false) (w3 : t_wd b t w_word = false) (w : t_wd b t w_split = true) : p_stmt b n (D, h1, h2, t) = (if h1 then .inr (2, kS t) else match p_num b n 1 4 (t_nx b n t) with | .inr e => .inr e | .inl q => .inl ((D.1, D.2.1, D.2.2.1, D.2.2.2.1, q.1, D.2.2.2.2.2), true, h2, q.2)) := by
  unfold p_stmt; dsimp only; rw [w0, if_neg (by decide), w1, if_neg (by decide), w2, if_neg (by decide), w3, if_neg (by decide), if_pos w]
  rfl
theorem p_st_g (w0 : t_wd b t w_buffer = false) (w1 : t_wd b t w_credit = false) (w2 : t_wd b t w_table = false) (w3 : t_wd b t w_word = false) (w4 : t_wd b t w_split = false) (w : t_wd b t w_tags = true) : p_stmt b n (D, h1, h2, t) = (if h2 then .inr (2, kS t) else match p_num b n 1 8 (t_nx b n t) with | .inr e => .inr e | .inl q => .inl ((D.1, D.2.1, D.2.2.1, D.2.2.2.1, D.2.2.2.2.1, q.1, D.2.2.2.2.2.2), h1, true, q.2)) := by
  unfold p_stmt; dsimp only; rw [w0, if_neg (by decide), w1, if_neg (by decide), w2, if_neg (by decide), w3, if_neg (by decide), w4, if_neg (by decide), if_pos w]
  rfl
theorem p_st_l (w0 : t_wd b t w_buffer = false) (w1 : t_wd b t w_credit = false) (w2 : t_wd b t w_table = false) (w3 : t_wd b t w_word = false) (w4 : t_wd b t w_split = false) (w5 : t_wd b t w_tags = false) (w : t_wd b t w_latency = true) : p_stmt b n (D, h1, h2, t) = (match p_num b n 0 1 (t_nx b n t) with
     | .inr e => .inr e
     | .inl q => match x_run b n 601 (true, [], [], q.2) with
       | none => .inr (0, 0)
       | some (.inr e) => .inr e
       | some (.inl r) => .inl ((D.1, D.2.1, D.2.2.1, D.2.2.2.1, D.2.2.2.2.1, D.2.2.2.2.2.1, if q.1 = 0 then (r.1, D.2.2.2.2.2.2.2) else (D.2.2.2.2.2.2.1, r.1)), h1, h2, r.2)) := by
  unfold p_stmt; dsimp only; rw [w0, if_neg (by decide), w1, if_neg (by decide), w2, if_neg (by decide), w3, if_neg (by decide), w4, if_neg (by decide), w5, if_neg (by decide), if_pos w]
  rfl
theorem p_st_n (w0 : t_wd b t w_buffer = false) (w1 : t_wd b t w_credit = false) (w2 : t_wd b t w_table = false) (w3 : t_wd b t w_word = false) (w4 : t_wd b t w_split = false) (w5 : t_wd b t w_tags = false) (w6 : t_wd b t w_latency = false) : p_stmt b n (D, h1, h2, t) = .inr (1, kS t) := by
  unfold p_stmt; dsimp only; rw [w0, if_neg (by decide), w1, if_neg (by decide), w2, if_neg (by decide), w3, if_neg (by decide), w4, if_neg (by decide), w5, if_neg (by decide), w6, if_neg (by decide)]
end PST
/-- what a statement left: all is told, or an error stands -/
def k_st (b : Nat → Nat) (n : Nat) (D : Pl) (h1 h2 : Bool) (t : Tok) (e : Nat × Nat) (r1 : PLR) (k1 k2 : Bool) (t1 : Tok) (e1 : Nat × Nat) : Prop := (∃ D1 : Pl, p_stmt b n (D, h1, h2, t) = .inl (D1, k1, k2, t1) ∧ e1 = e ∧ d_rep r1 D1) ∨ (p_stmt b n (D, h1, h2, t) = .inr e1 ∧ e1.1 ≠ 0)
/-- three numbers of a setting: the plan's row has what was told, or an error stands -/
theorem k_set_c {b : Nat → Nat} {n c1 c2 lo hi j v : Nat} {t t4 : Tok} {e e4 : Nat × Nat} {X : Nat × Nat × Tok → Ps} {R : Ps ⊕ (Nat × Nat)} (he : e.1 = 0) (hs : k_set b n c1 c2 lo hi t e = (j, v, t4, e4)) (hR : R = (match p_set b n c1 c2 lo hi t with | .inr e => .inr e | .inl q => .inl (X q))) : (R = .inl (X (j, v, t4)) ∧ e4 = e) ∨ (R = .inr e4 ∧ e4.1 ≠ 0) := by
  cases hp : p_set b n c1 c2 lo hi t with
  | inl q =>
    rw [hp] at hR
    rw [k_set_l hp] at hs
    cases hs
    exact Or.inl ⟨hR, rfl⟩
  | inr z =>
    rw [hp] at hR
    have h1 := k_set_r he hp
    rw [hs] at h1
    have h1 : e4 = z := h1
    subst h1
    exact Or.inr ⟨hR, p_set_r hp⟩
theorem k_num_c {b : Nat → Nat} {n lo hi v : Nat} {t t4 : Tok} {e e4 : Nat × Nat} {X : Nat × Tok → Ps} {R : Ps ⊕ (Nat × Nat)} (he : e.1 = 0) (hs : k_num b n lo hi t e = (v, t4, e4)) (hR : R = (match p_num b n lo hi t with | .inr e => .inr e | .inl q => .inl (X q))) : (R = .inl (X (v, t4)) ∧ e4 = e) ∨ (R = .inr e4 ∧ e4.1 ≠ 0) := by
  cases hp : p_num b n lo hi t with
  | inl q =>
    rw [hp] at hR
    rw [k_num_l hp] at hs
    cases hs
    exact Or.inl ⟨hR, rfl⟩
  | inr z =>
    rw [hp] at hR
    have h1 := k_num_r he hp
    rw [hs] at h1
    have h1 : e4 = z := h1
    subst h1
    exact Or.inr ⟨hR, by have := (p_num_r hp).1; omega⟩
theorem bz_Wsub {L : List Nat} {g : Nat → va_E} {b0 b2 : Nat × List va_E} {p : Nat} {es e1 : List va_E} (h : bz_W L g [b0, (p, es), b2]) (i : Nat) (he : (es.drop i).take e1.length = e1) (hl : i + e1.length ≤ es.length) : bz_W L g [b0, (p + i, e1), b2] := by
  have hp := List.pairwise_cons.mp h.2
  have hp2 := List.pairwise_cons.mp hp.2
  have a1 := hp.1 (p, es) List.mem_cons_self
  have a2 := hp.1 b2 (List.mem_cons_of_mem _ List.mem_cons_self)
  have a3 := hp2.1 b2 List.mem_cons_self
  dsimp only at a1 a3
  refine ⟨fun b hb => ?_, List.pairwise_cons.mpr ⟨fun b hb => ?_, List.pairwise_cons.mpr ⟨fun b hb => ?_, List.pairwise_singleton _ _⟩⟩⟩
  · rcases List.mem_cons.mp hb with e | e
    · rw [e]; exact h.1 b0 List.mem_cons_self
    · rcases List.mem_cons.mp e with e | e
      · rw [e]; exact (h.1 (p, es) (List.mem_cons_of_mem _ List.mem_cons_self)).sub i he
      · rw [List.mem_singleton.mp e]; exact h.1 b2 (List.mem_cons_of_mem _ (List.mem_cons_of_mem _ List.mem_cons_self))
  · rcases List.mem_cons.mp hb with e | e
    · rw [e]
      dsimp only
      omega
    · rw [List.mem_singleton.mp e]; exact a2
  · rw [List.mem_singleton.mp hb]
    dsimp only
    omega
/-- behind a call on the first of three blocks and a part of the second -/
theorem bz_B.two3s {L : List Nat} {g0 g g1 : Nat → va_E} {o0 p : Nat} {a0 es e0 e1 : List va_E} {b2 : Nat × List va_E} (h : bz_B L g0 g [(o0, a0), (p, es), b2]) (i : Nat) (h1 : bz_B L g g1 [(o0, e0), (p + i, e1)]) (hl : a0.length = e0.length) (hi : i + e1.length ≤ es.length) : bz_B L g0 g1 [(o0, e0), (p, bz_sp es i e1), b2] := by
  obtain ⟨gm, m1, m2⟩ := bz_B.mid (h.1.at (j := 0) rfl) hl h1
  have x1 := h.sp (j := 0) rfl 0 rfl m1 (by rw [hl]; exact Nat.le_of_eq (Nat.zero_add _))
  have e0' : bz_sp a0 0 e0 = e0 := by
    unfold bz_sp
    rw [List.take_zero, List.nil_append, Nat.zero_add, ← hl, List.drop_length, List.append_nil]
  rw [e0'] at x1
  exact x1.sp (j := 1) (o := p) (es := es) rfl i rfl m2 hi
