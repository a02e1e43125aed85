/-! the mathematics of tags: what is under way never exceeds what is wanted -/
def s_w (x : Tx) : Nat := if tK x = 1 then tW x - tO x else if tK x = 3 then max 1 (tW x) else 1
def s_rw (t : Nat) (x : Tx) : Nat := if (tK x = 1 ∨ tK x = 2) ∧ tT x = t then s_w x else 0
def s_cx (t : Nat) (x : Tx) : Nat := if tK x = 3 ∧ tT x = t then s_w x else 0
def s_rq (t : Nat) : List Tx → Nat
  | [] => 0
  | x :: r => s_rw t x + s_rq t r
def s_cw (t : Nat) : List Tx → Nat
  | [] => 0
  | x :: r => s_cx t x + s_cw t r
theorem s_rq_app (t : Nat) (a b : List Tx) : s_rq t (a ++ b) = s_rq t a + s_rq t b := by
  induction a with
  | nil => simp [s_rq]
  | cons x r ih => rw [List.cons_append, s_rq, s_rq, ih]; omega
theorem s_cw_app (t : Nat) (a b : List Tx) : s_cw t (a ++ b) = s_cw t a + s_cw t b := by
  induction a with
  | nil => simp [s_cw]
  | cons x r ih => rw [List.cons_append, s_cw, s_cw, ih]; omega
def s_eok (x : Tx) : Prop := tT x < 8 ∧ (tK x = 3 → (tV x).length = tW x ∧ tO x + tW x ≤ 4) ∧ (tK x = 1 → tO x < tW x ∧ tW x ≤ 4) ∧ tK x < 4
/-- the tags T of the side with queue Q and held H; Q1 and H1 are the other side's -/
def s_pg (T : Tg) (Q H Q1 H1 : List Tx) : Prop := ∀ t, t < 8 → T.2.2.1 t < 16 ∧ (T.1 t = 1 → v_pc (T.2.2.1 t) + (s_rq t Q + s_rq t H1 + s_cw t Q1 + s_cw t H) ≤ max 1 (T.2.1 t)) ∧ (T.1 t ≠ 1 → s_rq t Q + s_rq t H1 + s_cw t Q1 + s_cw t H = 0) ∧ (T.2.1 t = 0 → (∀ x ∈ Q, tK x = 1 → tT x ≠ t) ∧ (∀ x ∈ H1, tK x = 1 → tT x ≠ t) ∧ (∀ x ∈ Q1, tK x = 3 → tT x = t → tW x = 0) ∧ ∀ x ∈ H, tK x = 3 → tT x = t → tW x = 0)
theorem v_pc_or : ∀ m, m < 16 → ∀ i, i < 4 → v_pc (m ||| 2 ^ i) ≤ v_pc m + 1 ∧ m ||| 2 ^ i < 16 := by decide
theorem s_sto_pg (t : Nat) : ∀ (vs : List Int32) (i : Nat) (T : Tg), i + vs.length ≤ 4 → T.2.2.1 t < 16 → (s_sto t i vs T).1 = T.1 ∧ (s_sto t i vs T).2.1 = T.2.1 ∧ (∀ u, u ≠ t → (s_sto t i vs T).2.2.1 u = T.2.2.1 u) ∧ (s_sto t i vs T).2.2.1 t < 16 ∧ v_pc ((s_sto t i vs T).2.2.1 t) ≤ v_pc (T.2.2.1 t) + vs.length
  | [], i, T, _, h => ⟨rfl, rfl, fun _ _ => rfl, h, Nat.le_refl _⟩
  | v :: r, i, T, hi, h => by
    rw [List.length_cons] at hi
    have hv := v_pc_or _ h i (by omega)
    have e : va_up T.2.2.1 t (T.2.2.1 t ||| 2 ^ i) t = T.2.2.1 t ||| 2 ^ i := if_pos rfl
    obtain ⟨h1, h2, h3, h4, h5⟩ := s_sto_pg t r (i + 1) (T.1, T.2.1, va_up T.2.2.1 t (T.2.2.1 t ||| 2 ^ i), upd T.2.2.2 (t * 4 + i) v) (by omega) (by show va_up T.2.2.1 t _ t < 16; rw [e]; exact hv.2)
    refine ⟨h1, h2, fun u hu => (h3 u hu).trans (if_neg hu), h4, ?_⟩
    have h5 : v_pc ((s_sto t (i + 1) r _).2.2.1 t) ≤ v_pc (va_up T.2.2.1 t (T.2.2.1 t ||| 2 ^ i) t) + r.length := h5
    rw [e] at h5
    rw [s_sto, List.length_cons]
    omega
theorem s_ans_pg {mem : Nat → Int32} {now room sp : Nat} {x : Tx} (hsp : 1 ≤ sp) (hx : s_eok x) (hw : tW x ≤ 4) : ∀ (m : Nat) (q : List Tx) (off : Nat), off ≤ tW x →
    off ≤ (s_ans mem now room sp x m q off).2 ∧ (s_ans mem now room sp x m q off).2 ≤ tW x ∧ (∀ t, s_rq t (s_ans mem now room sp x m q off).1 = s_rq t q ∧ s_cw t (s_ans mem now room sp x m q off).1 = s_cw t q + (if tT x = t then (s_ans mem now room sp x m q off).2 - off else 0)) ∧ (∀ y ∈ (s_ans mem now room sp x m q off).1, y ∈ q ∨ (tK y = 3 ∧ tT y = tT x ∧ s_eok y)) ∧ (s_cnt 3 q ≤ room → s_cnt 3 (s_ans mem now room sp x m q off).1 ≤ room) ∧ ∀ k, k ≠ 3 → s_cnt k (s_ans mem now room sp x m q off).1 = s_cnt k q
  | 0, q, off, h => ⟨Nat.le_refl _, h, fun t => ⟨rfl, by rw [s_ans]; simp⟩, fun y hy => Or.inl hy, fun h => h, fun k _ => rfl⟩
  | m + 1, q, off, h => by
    by_cases c : off < tW x ∧ s_cnt 3 q < room
    · rw [s_ans, if_pos c]
      obtain ⟨h1, h2, h3, h4, h5, h6⟩ := s_ans_pg hsp hx hw m (q ++ [s_cmp mem x off (min sp (tW x - off)) now]) (off + min sp (tW x - off)) (by omega)
      have hlen : (tV (s_cmp mem x off (min sp (tW x - off)) now)).length = min sp (tW x - off) := by simp [s_cmp, tV]
      have ek : tK (s_cmp mem x off (min sp (tW x - off)) now) = 3 := rfl
      have et : tT (s_cmp mem x off (min sp (tW x - off)) now) = tT x := rfl
      have ew : tW (s_cmp mem x off (min sp (tW x - off)) now) = min sp (tW x - off) := rfl
      have eo : tO (s_cmp mem x off (min sp (tW x - off)) now) = off := rfl
      refine ⟨by omega, h2, fun t => ⟨?_, ?_⟩, fun y hy => ?_, fun hr => h5 (by rw [s_cnt_app, if_pos ek]; omega), fun k hk => ?_⟩
      · rw [(h3 t).1, s_rq_app]
        simp [s_rq, s_rw, ek]
      · rw [(h3 t).2, s_cw_app]
        have : s_cw t [s_cmp mem x off (min sp (tW x - off)) now] = if tT x = t then min sp (tW x - off) else 0 := by
          rw [s_cw, s_cw, s_cx, s_w, ek, et, ew]
          by_cases e : tT x = t
          · rw [if_pos ⟨rfl, e⟩, if_pos e, if_neg (by decide), if_pos rfl]; omega
          · rw [if_neg (by simp [e]), if_neg e]
        rw [this]
        by_cases e : tT x = t
        · rw [if_pos e, if_pos e, if_pos e]; omega
        · rw [if_neg e, if_neg e, if_neg e]
      · rcases h4 y hy with h7 | h7
        · rcases List.mem_append.mp h7 with h8 | h8
          · exact Or.inl h8
          · rw [List.mem_singleton.mp h8]
            exact Or.inr ⟨rfl, rfl, hx.1, fun _ => ⟨hlen, by rw [eo, ew]; omega⟩, fun e => absurd (show (3 : Nat) = 1 from e) (by decide), by rw [ek]; decide⟩
        · exact Or.inr h7
      · rw [h6 k hk, s_cnt_app, ek, if_neg (Ne.symm hk)]; rfl
    · rw [s_ans, if_neg c]
      exact ⟨Nat.le_refl _, h, fun t => ⟨rfl, by simp⟩, fun y hy => Or.inl hy, fun h => h, fun k _ => rfl⟩
