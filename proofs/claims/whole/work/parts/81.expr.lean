/-! A SUM'S TEXT AS MATHEMATICS: operators and brackets wait on a stack (its top first) until their right sides have ended; out: the items in postfix order. -/
def x_fl (r : Nat) : List Nat → List Int32 → List Nat × List Int32
  | [], o => ([], o)
  | c :: S, o => if r ≤ t_rk c then x_fl r S (o ++ [-(nI c)]) else (c :: S, o)
def x_open (S : List Nat) : Nat := S.countP (fun c => c == 40)
def w_kind : List Nat := [107, 105, 110, 100]
def w_address : List Nat := [97, 100, 100, 114, 101, 115, 115]
def w_words : List Nat := [119, 111, 114, 100, 115]
def w_tick : List Nat := [116, 105, 99, 107]
def x_fac (b : Nat → Nat) (t : Tok) : Option Int32 := if kK t = 3 then some (nI (kN t)) else if t_wd b t w_kind then some (-1) else if t_wd b t w_address then some (-2) else if t_wd b t w_words then some (-3) else if t_wd b t w_tick then some (-4) else none
/-- a factor is due; the stack; what is out; the token -/
abbrev Xs : Type := Bool × List Nat × List Int32 × Tok
abbrev Xf : Type := (List Int32 × Tok) ⊕ (Nat × Nat)
def x_step (b : Nat → Nat) (n : Nat) (σ : Xs) : Xs ⊕ Xf :=
  if σ.1 then
    (if kK σ.2.2.2 = 40 then (if x_open σ.2.1 < 5 then .inl (true, 40 :: σ.2.1, σ.2.2.1, t_nx b n σ.2.2.2) else .inr (.inr (4, kS σ.2.2.2)))
     else match x_fac b σ.2.2.2 with
      | some i => .inl (false, σ.2.1, σ.2.2.1 ++ [i], t_nx b n σ.2.2.2)
      | none => .inr (.inr (1, kS σ.2.2.2)))
  else if 0 < t_rk (kK σ.2.2.2) then .inl (true, kK σ.2.2.2 :: (x_fl (t_rk (kK σ.2.2.2)) σ.2.1 σ.2.2.1).1, (x_fl (t_rk (kK σ.2.2.2)) σ.2.1 σ.2.2.1).2, t_nx b n σ.2.2.2)
  else if kK σ.2.2.2 = 41 ∧ 0 < x_open σ.2.1 then .inl (false, (x_fl 1 σ.2.1 σ.2.2.1).1.tail, (x_fl 1 σ.2.1 σ.2.2.1).2, t_nx b n σ.2.2.2)
  else if 0 < x_open σ.2.1 then .inr (.inr (1, kS σ.2.2.2))
  else .inr (.inl ((x_fl 1 σ.2.1 σ.2.2.1).2, σ.2.2.2))
def x_run (b : Nat → Nat) (n : Nat) : Nat → Xs → Option Xf
  | 0, _ => none
  | k + 1, σ => match x_step b n σ with
    | .inl σ' => x_run b n k σ'
    | .inr r => some r
theorem x_run_l {b : Nat → Nat} {n k : Nat} {σ σ' : Xs} (h : x_step b n σ = .inl σ') : x_run b n (k + 1) σ = x_run b n k σ' := by
  rw [x_run, h]
theorem x_run_r {b : Nat → Nat} {n k : Nat} {σ : Xs} {r : Xf} (h : x_step b n σ = .inr r) : x_run b n (k + 1) σ = some r := by
  rw [x_run, h]
theorem x_run_up {b : Nat → Nat} {n : Nat} : ∀ (k j : Nat) (σ : Xs) (r : Xf), x_run b n k σ = some r → x_run b n (k + j) σ = some r
  | 0, j, σ, r, h => by simp [x_run] at h
  | k + 1, j, σ, r, h => by
    rw [show k + 1 + j = (k + j) + 1 by omega]
    cases hs : x_step b n σ with
    | inl σ' => rw [x_run_l hs] at h ⊢; exact x_run_up k j σ' r h
    | inr q => rw [x_run_r hs] at h ⊢; exact h
def x_fin (b : Nat → Nat) (n : Nat) (σ : Xs) (r : Xf) : Prop := ∃ k, x_run b n k σ = some r
theorem x_fin_l {b : Nat → Nat} {n : Nat} {σ σ' : Xs} {r : Xf} (h : x_step b n σ = .inl σ') (hf : x_fin b n σ' r) : x_fin b n σ r := by
  obtain ⟨k, hk⟩ := hf
  exact ⟨k + 1, by rw [x_run_l h]; exact hk⟩
theorem x_fin_r {b : Nat → Nat} {n : Nat} {σ : Xs} {r : Xf} (h : x_step b n σ = .inr r) : x_fin b n σ r := ⟨1, x_run_r h⟩
theorem t_wd_k {b : Nat → Nat} {t : Tok} {w : List Nat} (h : t_wd b t w = true) : kK t = 2 ∧ kE t - kS t = w.length := by
  unfold t_wd at h
  simp only [Bool.and_eq_true, beq_iff_eq, decide_eq_true_eq] at h
  exact h.1
theorem x_fac_k {b : Nat → Nat} {t : Tok} {i : Int32} (h : x_fac b t = some i) : kK t = 3 ∨ kK t = 2 := by
  unfold x_fac at h
  by_cases h1 : kK t = 3
  · exact Or.inl h1
  · rw [if_neg h1] at h
    refine Or.inr ?_
    by_cases h2 : t_wd b t w_kind = true
    · exact (t_wd_k h2).1
    · rw [if_neg h2] at h
      by_cases h3 : t_wd b t w_address = true
      · exact (t_wd_k h3).1
      · rw [if_neg h3] at h
        by_cases h4 : t_wd b t w_words = true
        · exact (t_wd_k h4).1
        · rw [if_neg h4] at h
          by_cases h5 : t_wd b t w_tick = true
          · exact (t_wd_k h5).1
          · rw [if_neg h5] at h; cases h
/-- what a step does: four ways on -/
theorem x_step_l {b : Nat → Nat} {n : Nat} {σ σ' : Xs} (h : x_step b n σ = .inl σ') : σ'.2.2.2 = t_nx b n σ.2.2.2 ∧ kK σ.2.2.2 ≠ 0 ∧
    ((σ.1 = true ∧ kK σ.2.2.2 = 40 ∧ x_open σ.2.1 < 5 ∧ σ' = (true, 40 :: σ.2.1, σ.2.2.1, t_nx b n σ.2.2.2)) ∨
     (σ.1 = true ∧ kK σ.2.2.2 ≠ 40 ∧ ∃ i, x_fac b σ.2.2.2 = some i ∧ σ' = (false, σ.2.1, σ.2.2.1 ++ [i], t_nx b n σ.2.2.2)) ∨
     (σ.1 = false ∧ 0 < t_rk (kK σ.2.2.2) ∧ σ' = (true, kK σ.2.2.2 :: (x_fl (t_rk (kK σ.2.2.2)) σ.2.1 σ.2.2.1).1, (x_fl (t_rk (kK σ.2.2.2)) σ.2.1 σ.2.2.1).2, t_nx b n σ.2.2.2)) ∨
     (σ.1 = false ∧ t_rk (kK σ.2.2.2) = 0 ∧ kK σ.2.2.2 = 41 ∧ 0 < x_open σ.2.1 ∧ σ' = (false, (x_fl 1 σ.2.1 σ.2.2.1).1.tail, (x_fl 1 σ.2.1 σ.2.2.1).2, t_nx b n σ.2.2.2))) := by
  unfold x_step at h
  by_cases h1 : σ.1 = true
  · rw [if_pos h1] at h
    by_cases h2 : kK σ.2.2.2 = 40
    · rw [if_pos h2] at h
      by_cases h3 : x_open σ.2.1 < 5
      · rw [if_pos h3] at h
        cases h
        exact ⟨rfl, by omega, Or.inl ⟨h1, h2, h3, rfl⟩⟩
      · rw [if_neg h3] at h; cases h
    · rw [if_neg h2] at h
      cases hf : x_fac b σ.2.2.2 with
      | none => rw [hf] at h; cases h
      | some i =>
        rw [hf] at h
        cases h
        exact ⟨rfl, by have := x_fac_k hf; omega, Or.inr (Or.inl ⟨h1, h2, i, rfl, rfl⟩)⟩
  · rw [if_neg h1] at h
    have h1 : σ.1 = false := by simpa using h1
    by_cases h2 : 0 < t_rk (kK σ.2.2.2)
    · rw [if_pos h2] at h
      cases h
      refine ⟨rfl, fun e => ?_, Or.inr (Or.inr (Or.inl ⟨h1, h2, rfl⟩))⟩
      rw [e] at h2
      exact absurd h2 (by decide)
    · rw [if_neg h2] at h
      by_cases h3 : kK σ.2.2.2 = 41 ∧ 0 < x_open σ.2.1
      · rw [if_pos h3] at h
        cases h
        exact ⟨rfl, by omega, Or.inr (Or.inr (Or.inr ⟨h1, by omega, h3.1, h3.2, rfl⟩))⟩
      · rw [if_neg h3] at h
        by_cases h4 : 0 < x_open σ.2.1
        · rw [if_pos h4] at h; cases h
        · rw [if_neg h4] at h; cases h
theorem x_run_end {b : Nat → Nat} {n : Nat} : ∀ (k : Nat) (σ : Xs), t_is b n σ.2.2.2 → n - kS σ.2.2.2 < k → ∃ r, x_run b n k σ = some r
  | 0, σ, _, h => by omega
  | k + 1, σ, ht, h => by
    cases hs : x_step b n σ with
    | inr q => exact ⟨q, x_run_r hs⟩
    | inl σ' =>
      obtain ⟨h1, h2, -⟩ := x_step_l hs
      have h3 := t_nx_lt ht h2
      have h4 := t_nx_is ht
      obtain ⟨r, hr⟩ := x_run_end k σ' (by rw [h1]; exact h4.1) (by rw [h1]; omega)
      exact ⟨r, by rw [x_run_l hs]; exact hr⟩
theorem x_fin_run {b : Nat → Nat} {n k : Nat} {σ : Xs} {r : Xf} (hf : x_fin b n σ r) (ht : t_is b n σ.2.2.2) (hk : n - kS σ.2.2.2 < k) : x_run b n k σ = some r := by
  obtain ⟨j, hj⟩ := hf
  obtain ⟨q, hq⟩ := x_run_end k σ ht hk
  have h1 := x_run_up j k σ r hj
  have h2 := x_run_up k j σ q hq
  rw [Nat.add_comm] at h2
  rw [hq]
  exact h2.symm.trans h1
/-! the stack -/
def x_okS : List Nat → Prop
  | [] => True
  | c :: S => x_okS S ∧ (c = 40 ∨ 0 < t_rk c) ∧ S.length + 1 ≤ 3 * x_open (c :: S) + t_rk c
def x_top (S : List Nat) : Nat := match S with | [] => 0 | c :: _ => t_rk c
def x_ops (S : List Nat) : Nat := S.countP (fun c => decide (0 < t_rk c))
theorem t_rk_le (c : Nat) : t_rk c ≤ 2 := by
  unfold t_rk
  by_cases h : c = 43 ∨ c = 45
  · rw [if_pos h]; omega
  · rw [if_neg h]
    by_cases h2 : c = 42 ∨ c = 47 ∨ c = 37
    · rw [if_pos h2]; omega
    · rw [if_neg h2]; omega
theorem t_rk_40 : t_rk 40 = 0 := by decide
theorem x_open_c (c : Nat) (S : List Nat) : x_open (c :: S) = x_open S + if c = 40 then 1 else 0 := by
  unfold x_open
  rw [List.countP_cons]
  by_cases h : c = 40 <;> simp [h]
theorem x_ops_c (c : Nat) (S : List Nat) : x_ops (c :: S) = x_ops S + if 0 < t_rk c then 1 else 0 := by
  unfold x_ops
  rw [List.countP_cons]
  by_cases h : 0 < t_rk c <;> simp [h]
theorem x_okS.len {S : List Nat} (h : x_okS S) : S.length ≤ 3 * x_open S + x_top S := by
  cases S with
  | nil => exact Nat.zero_le _
  | cons c S => exact h.2.2
theorem x_okS.sum : ∀ {S : List Nat}, x_okS S → S.length = x_open S + x_ops S
  | [], _ => rfl
  | c :: S, h => by
    have ih := x_okS.sum h.1
    rw [x_open_c, x_ops_c, List.length_cons, ih]
    rcases h.2.1 with e | e
    · subst e
      rw [if_pos rfl, t_rk_40]
      simp
      omega
    · have : c ≠ 40 := fun q => by rw [q, t_rk_40] at e; omega
      rw [if_neg this, if_pos e]
      omega
theorem x_top_le (S : List Nat) : x_top S ≤ 2 := by
  cases S with
  | nil => exact Nat.zero_le _
  | cons c S => exact t_rk_le c
theorem x_okS.bnd {S : List Nat} (h : x_okS S) (ho : x_open S ≤ 5) : S.length ≤ 17 ∧ x_ops S ≤ 12 := by
  have h1 := h.len
  have h2 := h.sum
  have h3 := x_top_le S
  omega
theorem x_okS.push40 {S : List Nat} (h : x_okS S) : x_okS (40 :: S) := by
  refine ⟨h, Or.inl rfl, ?_⟩
  have h1 := h.len
  have h2 := x_top_le S
  rw [x_open_c, if_pos rfl, t_rk_40]
  omega
theorem x_okS.push {S : List Nat} {c : Nat} (h : x_okS S) (hc : 0 < t_rk c) (ht : x_top S < t_rk c) : x_okS (c :: S) := by
  refine ⟨h, Or.inr hc, ?_⟩
  have h1 := h.len
  have : c ≠ 40 := fun q => by rw [q, t_rk_40] at hc; omega
  rw [x_open_c, if_neg this]
  omega
/-- items that lead a stack of h values to one of h' -/
def e_to (l : List Int32) (h h' : Nat) : Prop := ∀ r, e_ok r h' → e_ok (l ++ r) h
theorem e_to.nil {h : Nat} : e_to [] h h := fun _ q => q
theorem e_to.one {l : List Int32} {h h' : Nat} {i : Int32} (q : e_to l h h') (hi : e_isnm i ∨ ∃ n, n < 10000 ∧ i = nI n) (h16 : h' < 16) : e_to (l ++ [i]) h (h' + 1) := fun r hr => by
  rw [List.append_assoc]
  exact q _ (Or.inr ⟨hi, h16, hr⟩)
theorem e_to.op {l : List Int32} {h h' : Nat} {i : Int32} (q : e_to l h h') (hi : e_isop i) (h2 : 2 ≤ h') : e_to (l ++ [i]) h (h' - 1) := fun r hr => by
  rw [List.append_assoc]
  exact q _ (Or.inl ⟨hi, h2, hr⟩)
theorem x_isop {c : Nat} (h : 0 < t_rk c) : e_isop (-(nI c)) := by
  have hc : c = 43 ∨ c = 45 ∨ c = 42 ∨ c = 47 ∨ c = 37 := by
    unfold t_rk at h
    by_cases h1 : c = 43 ∨ c = 45
    · omega
    · rw [if_neg h1] at h
      by_cases h2 : c = 42 ∨ c = 47 ∨ c = 37
      · omega
      · rw [if_neg h2] at h; omega
  unfold e_isop
  rcases hc with rfl | rfl | rfl | rfl | rfl <;> decide
theorem x_fl_ok {r : Nat} (hr : 1 ≤ r) : ∀ (S : List Nat) (o : List Int32), x_okS S → e_to o 0 (x_ops S + 1) → x_okS (x_fl r S o).1 ∧ e_to (x_fl r S o).2 0 (x_ops (x_fl r S o).1 + 1) ∧ x_open (x_fl r S o).1 = x_open S ∧ x_top (x_fl r S o).1 < r ∧ (x_fl r S o).2.length + (x_fl r S o).1.length = o.length + S.length
  | [], o, h, he => ⟨h, he, rfl, hr, rfl⟩
  | c :: S, o, h, he => by
    rw [x_fl]
    by_cases hc : r ≤ t_rk c
    · rw [if_pos hc]
      have hc0 : 0 < t_rk c := by omega
      have hne : c ≠ 40 := fun q => by rw [q, t_rk_40] at hc0; omega
      rw [x_ops_c, if_pos hc0] at he
      obtain ⟨a1, a2, a3, a4, a5⟩ := x_fl_ok hr S (o ++ [-(nI c)]) h.1 (he.op (x_isop hc0) (by omega))
      refine ⟨a1, a2, ?_, a4, ?_⟩
      · rw [a3, x_open_c, if_neg hne]
        omega
      · rw [a5, List.length_append, List.length_cons, List.length_cons]
        simp
        omega
    · rw [if_neg hc]
      exact ⟨h, he, rfl, by show t_rk c < r; omega, rfl⟩
/-- behind a flush down to 1 the top is a bracket, if one is open -/
theorem x_fl_top {S : List Nat} (h : x_okS S) (ht : x_top S < 1) (ho : 0 < x_open S) : ∃ S', S = 40 :: S' := by
  cases S with
  | nil => exact absurd ho (by decide)
  | cons c S =>
    rcases h.2.1 with e | e
    · exact ⟨S, by rw [e]⟩
    · have : t_rk c < 1 := ht
      omega
theorem t_num_lt {b : Nat → Nat} {p : Nat} : ∀ k, (∀ i, i < k → t_di (b (p + i)) = true) → t_num b p k < 10 ^ k
  | 0, _ => Nat.lt_succ_self 0
  | k + 1, h => by
    have ih := t_num_lt k (fun i hi => h i (by omega))
    have hd := h k (by omega)
    unfold t_di at hd
    simp only [Bool.and_eq_true, decide_eq_true_eq] at hd
    rw [t_num, Nat.pow_succ]
    omega
theorem t_is.num {b : Nat → Nat} {n : Nat} {t : Tok} (h : t_is b n t) (hk : kK t = 3) : kN t < 10000 := by
  obtain ⟨p, hp, rfl⟩ := h
  revert hk
  unfold t_at
  by_cases h1 : n ≤ p
  · rw [if_pos h1]; intro h; cases h
  · rw [if_neg h1]
    by_cases h2 : t_le (b p) = true
    · rw [if_pos h2]
      by_cases h3 : t_end (fun i => t_le (b i)) n p - p ≤ 8
      · rw [if_pos h3]; intro h; cases h
      · rw [if_neg h3]; intro h; cases h
    · rw [if_neg h2]
      by_cases h3 : t_di (b p) = true
      · rw [if_pos h3]
        by_cases h4 : t_end (fun i => t_di (b i)) n p - p ≤ 4
        · intro _
          have h5 := t_num_lt (b := b) (p := p) (t_end (fun i => t_di (b i)) n p - p) (fun i hi => (t_end_in (f := fun i => t_di (b i)) (n := n) (n - p) p (p + i) rfl (by omega) (by omega)).1)
          have h6 : 10 ^ (t_end (fun i => t_di (b i)) n p - p) ≤ 10 ^ 4 := Nat.pow_le_pow_right (by decide) h4
          exact Nat.lt_of_lt_of_le h5 h6
        · rw [if_neg h4]; intro h; cases h
      · rw [if_neg h3]
        by_cases h4 : t_sg (b p) = true
        · rw [if_pos h4]
          intro h
          have h : b p = 3 := h
          rw [h] at h4
          exact absurd h4 (by decide)
        · rw [if_neg h4]; intro h; cases h
theorem x_fac_ok {b : Nat → Nat} {n : Nat} {t : Tok} {i : Int32} (ht : t_is b n t) (h : x_fac b t = some i) : e_isnm i ∨ ∃ m, m < 10000 ∧ i = nI m := by
  unfold x_fac at h
  by_cases h1 : kK t = 3
  · rw [if_pos h1] at h
    cases h
    exact Or.inr ⟨_, ht.num h1, rfl⟩
  · rw [if_neg h1] at h
    refine Or.inl ?_
    by_cases h2 : t_wd b t w_kind = true
    · rw [if_pos h2] at h; cases h; exact Or.inl rfl
    · rw [if_neg h2] at h
      by_cases h3 : t_wd b t w_address = true
      · rw [if_pos h3] at h; cases h; exact Or.inr (Or.inl rfl)
      · rw [if_neg h3] at h
        by_cases h4 : t_wd b t w_words = true
        · rw [if_pos h4] at h; cases h; exact Or.inr (Or.inr (Or.inl rfl))
        · rw [if_neg h4] at h
          by_cases h5 : t_wd b t w_tick = true
          · rw [if_pos h5] at h; cases h; exact Or.inr (Or.inr (Or.inr rfl))
          · rw [if_neg h5] at h; cases h
/-- what holds of each state of a sum that is read -/
def x_inv (b : Nat → Nat) (n : Nat) (σ : Xs) : Prop := t_is b n σ.2.2.2 ∧ x_okS σ.2.1 ∧ x_open σ.2.1 ≤ 5 ∧ e_to σ.2.2.1 0 (x_ops σ.2.1 + if σ.1 then 0 else 1) ∧ σ.2.2.1.length + σ.2.1.length ≤ kS σ.2.2.2
theorem x_inv.step {b : Nat → Nat} {n : Nat} {σ σ' : Xs} (h : x_inv b n σ) (hs : x_step b n σ = .inl σ') : x_inv b n σ' := by
  obtain ⟨i1, i2, i3, i4, i5⟩ := h
  obtain ⟨h1, h2, h3⟩ := x_step_l hs
  have ht := t_nx_is i1
  have hl := t_nx_lt i1 h2
  have hn := ht.1.le
  rcases h3 with ⟨c1, c2, c3, rfl⟩ | ⟨c1, c2, i, c3, rfl⟩ | ⟨c1, c2, rfl⟩ | ⟨c1, c2, c3, c4, rfl⟩
  · refine ⟨ht.1, i2.push40, ?_, ?_, ?_⟩
    · show x_open (40 :: σ.2.1) ≤ 5
      rw [x_open_c, if_pos rfl]
      omega
    · rw [c1] at i4
      show e_to σ.2.2.1 0 (x_ops (40 :: σ.2.1) + 0)
      rw [x_ops_c, t_rk_40]
      exact i4
    · show σ.2.2.1.length + (σ.2.1.length + 1) ≤ kS (t_nx b n σ.2.2.2)
      omega
  · rw [c1] at i4
    refine ⟨ht.1, i2, i3, ?_, ?_⟩
    · exact i4.one (x_fac_ok i1 c3) (by have := i2.bnd i3; show x_ops σ.2.1 + 0 < 16; omega)
    · show (σ.2.2.1 ++ [i]).length + σ.2.1.length ≤ kS (t_nx b n σ.2.2.2)
      rw [List.length_append]
      show σ.2.2.1.length + 1 + σ.2.1.length ≤ _
      omega
  · rw [c1] at i4
    obtain ⟨a1, a2, a3, a4, a5⟩ := x_fl_ok (r := t_rk (kK σ.2.2.2)) c2 σ.2.1 σ.2.2.1 i2 i4
    have hne : kK σ.2.2.2 ≠ 40 := fun q => by rw [q, t_rk_40] at c2; omega
    refine ⟨ht.1, a1.push c2 a4, ?_, ?_, ?_⟩
    · show x_open (kK σ.2.2.2 :: _) ≤ 5
      rw [x_open_c, if_neg hne, a3]
      omega
    · show e_to _ 0 (x_ops (kK σ.2.2.2 :: _) + 0)
      rw [x_ops_c, if_pos c2]
      exact a2
    · show (x_fl (t_rk (kK σ.2.2.2)) σ.2.1 σ.2.2.1).2.length + ((x_fl (t_rk (kK σ.2.2.2)) σ.2.1 σ.2.2.1).1.length + 1) ≤ kS (t_nx b n σ.2.2.2)
      omega
  · rw [c1] at i4
    obtain ⟨a1, a2, a3, a4, a5⟩ := x_fl_ok (r := 1) (Nat.le_refl 1) σ.2.1 σ.2.2.1 i2 i4
    obtain ⟨S', e⟩ := x_fl_top a1 a4 (by omega)
    rw [e] at a1 a2 a3 a5 ⊢
    refine ⟨ht.1, a1.1, ?_, ?_, ?_⟩
    · show x_open S' ≤ 5
      rw [x_open_c] at a3
      omega
    · rw [x_ops_c, t_rk_40] at a2
      exact a2
    · show (x_fl 1 σ.2.1 σ.2.2.1).2.length + S'.length ≤ kS (t_nx b n σ.2.2.2)
      rw [List.length_cons] at a5
      omega
/-- what a sum that was read is -/
theorem x_run_ok {b : Nat → Nat} {n : Nat} : ∀ (k : Nat) (σ : Xs) (l : List Int32) (t : Tok), x_inv b n σ → x_run b n k σ = some (.inl (l, t)) → t_is b n t ∧ e_ok l 0 ∧ l.length ≤ kS t ∧ kS σ.2.2.2 ≤ kS t
  | 0, σ, l, t, _, h => by simp [x_run] at h
  | k + 1, σ, l, t, hi, h => by
    cases hs : x_step b n σ with
    | inl σ' =>
      rw [x_run_l hs] at h
      have h1 := x_run_ok k σ' l t (hi.step hs) h
      have h2 := t_nx_is hi.1
      have h3 := hi.1.le
      have h4 := (x_step_l hs).1
      rw [h4] at h1
      refine ⟨h1.1, h1.2.1, h1.2.2.1, by omega⟩
    | inr q =>
      rw [x_run_r hs] at h
      cases h
      have hi0 := hi
      obtain ⟨i1, i2, i3, i4, i5⟩ := hi
      unfold x_step at hs
      by_cases h1 : σ.1 = true
      · rw [if_pos h1] at hs
        by_cases h2 : kK σ.2.2.2 = 40
        · rw [if_pos h2] at hs
          by_cases h3 : x_open σ.2.1 < 5
          · rw [if_pos h3] at hs; cases hs
          · rw [if_neg h3] at hs; cases hs
        · rw [if_neg h2] at hs
          cases hf : x_fac b σ.2.2.2 with
          | none => rw [hf] at hs; cases hs
          | some i => rw [hf] at hs; cases hs
      · rw [if_neg h1] at hs
        rw [if_neg h1] at i4
        by_cases h2 : 0 < t_rk (kK σ.2.2.2)
        · rw [if_pos h2] at hs; cases hs
        · rw [if_neg h2] at hs
          by_cases h3 : kK σ.2.2.2 = 41 ∧ 0 < x_open σ.2.1
          · rw [if_pos h3] at hs; cases hs
          · rw [if_neg h3] at hs
            by_cases h4 : 0 < x_open σ.2.1
            · rw [if_pos h4] at hs; cases hs
            · rw [if_neg h4] at hs
              cases hs
              obtain ⟨a1, a2, a3, a4, a5⟩ := x_fl_ok (r := 1) (Nat.le_refl 1) σ.2.1 σ.2.2.1 i2 i4
              have h0 : (x_fl 1 σ.2.1 σ.2.2.1).1.length = 0 := by
                have := a1.len
                omega
              have hop : x_ops (x_fl 1 σ.2.1 σ.2.2.1).1 = 0 := by
                have := a1.sum
                omega
              rw [hop] at a2
              refine ⟨i1, ?_, by show (x_fl 1 σ.2.1 σ.2.2.1).2.length ≤ _; omega, Nat.le_refl _⟩
              have := a2 [] (show 1 = 1 from rfl)
              rwa [List.append_nil] at this
