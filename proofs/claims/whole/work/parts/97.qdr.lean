/-! the reference's draft: mathematics -/
def q_dr (A : Nat → Nat → Int32) (D : Pl) : Prop := (∀ k, k < 8 → A 2 (8 + k) = nI (D.1 k)) ∧ (∀ k, k < 8 → A 3 (8 + k) = nI (D.2.1 k)) ∧ (∀ k, k < 16 → A 4 (16 + k) = nI (D.2.2.1 k)) ∧ (∀ k, k < 32 → A 5 (32 + k) = nI (D.2.2.2.1 k)) ∧ A 6 2 = nI D.2.2.2.2.1 ∧ A 6 3 = nI D.2.2.2.2.2.1 ∧ q_ex A 0 D.2.2.2.2.2.2.1 ∧ q_ex A 1 D.2.2.2.2.2.2.2
/-- the lower halves, the plan that holds, are as they were -/
def q_fA (A A1 : Nat → Nat → Int32) : Prop := (∀ i, (i < 2 ∨ 8 < i) → A1 i = A i) ∧ (∀ k, k < 8 → A1 2 k = A 2 k ∧ A1 3 k = A 3 k) ∧ (∀ k, k < 16 → A1 4 k = A 4 k) ∧ (∀ k, k < 32 → A1 5 k = A 5 k) ∧ (∀ k, k < 2 → A1 6 k = A 6 k ∧ A1 7 k = A 7 k) ∧ ∀ k, k < 1240 → A1 8 k = A 8 k
theorem q_fA.rf {A : Nat → Nat → Int32} : q_fA A A := ⟨fun _ _ => rfl, fun _ _ => ⟨rfl, rfl⟩, fun _ _ => rfl, fun _ _ => rfl, fun _ _ => ⟨rfl, rfl⟩, fun _ _ => rfl⟩
theorem q_fA.tr {A A1 A2 : Nat → Nat → Int32} (h : q_fA A A1) (h2 : q_fA A1 A2) : q_fA A A2 := ⟨fun i x => (h2.1 i x).trans (h.1 i x), fun k x => ⟨(h2.2.1 k x).1.trans (h.2.1 k x).1, (h2.2.1 k x).2.trans (h.2.1 k x).2⟩, fun k x => (h2.2.2.1 k x).trans (h.2.2.1 k x), fun k x => (h2.2.2.2.1 k x).trans (h.2.2.2.1 k x), fun k x => ⟨(h2.2.2.2.2.1 k x).1.trans (h.2.2.2.2.1 k x).1, (h2.2.2.2.2.1 k x).2.trans (h.2.2.2.2.1 k x).2⟩, fun k x => (h2.2.2.2.2.2 k x).trans (h.2.2.2.2.2 k x)⟩
theorem vaA_ne {A : Nat → Nat → Int32} {k i : Nat} {f : Nat → Int32} (h : i ≠ k) : va_up A k f i = A i := by unfold va_up; rw [if_neg h]
theorem q_fA.fE {a : Nat} {A A1 : Nat → Nat → Int32} (ha : a < 2) (h : q_fE a A A1) : q_fA A A1 :=
  ⟨fun i hi => h.1 i (by omega) (by omega), fun k _ => ⟨by rw [h.1 2 (by decide) (by decide)], by rw [h.1 3 (by decide) (by decide)]⟩, fun k _ => by rw [h.1 4 (by decide) (by decide)], fun k _ => by rw [h.1 5 (by decide) (by decide)], fun k hk => ⟨by rw [h.1 6 (by decide) (by decide)], h.2.1 k (by omega)⟩, fun k hk => h.2.2 k (by omega)⟩
theorem q_fA.u2 {A : Nat → Nat → Int32} {j : Nat} {v : Int32} : q_fA A (va_up A 2 (upd (A 2) (8 + j) v)) :=
  ⟨fun i hi => vaA_ne (by omega), fun k hk => ⟨upd_ne (by omega), rfl⟩, fun _ _ => rfl, fun _ _ => rfl, fun _ _ => ⟨rfl, rfl⟩, fun _ _ => rfl⟩
theorem q_fA.u3 {A : Nat → Nat → Int32} {j : Nat} {v : Int32} : q_fA A (va_up A 3 (upd (A 3) (8 + j) v)) :=
  ⟨fun i hi => vaA_ne (by omega), fun k hk => ⟨rfl, upd_ne (by omega)⟩, fun _ _ => rfl, fun _ _ => rfl, fun _ _ => ⟨rfl, rfl⟩, fun _ _ => rfl⟩
theorem q_fA.u4 {A : Nat → Nat → Int32} {j : Nat} {v : Int32} : q_fA A (va_up A 4 (upd (A 4) (16 + j) v)) :=
  ⟨fun i hi => vaA_ne (by omega), fun k hk => ⟨rfl, rfl⟩, fun k hk => upd_ne (by omega), fun _ _ => rfl, fun _ _ => ⟨rfl, rfl⟩, fun _ _ => rfl⟩
theorem q_fA.u5 {A : Nat → Nat → Int32} {j : Nat} {v : Int32} : q_fA A (va_up A 5 (upd (A 5) (32 + j) v)) :=
  ⟨fun i hi => vaA_ne (by omega), fun k hk => ⟨rfl, rfl⟩, fun _ _ => rfl, fun k hk => upd_ne (by omega), fun _ _ => ⟨rfl, rfl⟩, fun _ _ => rfl⟩
theorem q_fA.u6 {A : Nat → Nat → Int32} {j : Nat} {v : Int32} : q_fA A (va_up A 6 (upd (A 6) (2 + j) v)) :=
  ⟨fun i hi => vaA_ne (by omega), fun k hk => ⟨rfl, rfl⟩, fun _ _ => rfl, fun _ _ => rfl, fun k hk => ⟨upd_ne (by omega), rfl⟩, fun _ _ => rfl⟩
theorem q_fA.u7 {A : Nat → Nat → Int32} {j : Nat} {v : Int32} : q_fA A (va_up A 7 (upd (A 7) (2 + j) v)) :=
  ⟨fun i hi => vaA_ne (by omega), fun k hk => ⟨rfl, rfl⟩, fun _ _ => rfl, fun _ _ => rfl, fun k hk => ⟨rfl, upd_ne (by omega)⟩, fun _ _ => rfl⟩
theorem upd_nIo {f : Nat → Int32} {h : Nat → Nat} {m j v k : Nat} (hk : f (m + k) = nI (h k)) : upd f (m + j) (nI v) (m + k) = nI (va_up h j v k) := by
  by_cases e : k = j
  · subst e
    rw [upd_eq]
    simp [va_up]
  · rw [upd_ne (by omega)]
    unfold va_up
    rw [if_neg e]
    exact hk
theorem q_dr.u2 {A : Nat → Nat → Int32} {D : Pl} {j v : Nat} (h : q_dr A D) : q_dr (va_up A 2 (upd (A 2) (8 + j) (nI v))) (va_up D.1 j v, D.2) := ⟨fun k hk => upd_nIo (h.1 k hk), h.2⟩
theorem q_dr.u3 {A : Nat → Nat → Int32} {D : Pl} {j v : Nat} (h : q_dr A D) : q_dr (va_up A 3 (upd (A 3) (8 + j) (nI v))) (D.1, va_up D.2.1 j v, D.2.2) := ⟨h.1, fun k hk => upd_nIo (h.2.1 k hk), h.2.2⟩
theorem q_dr.u4 {A : Nat → Nat → Int32} {D : Pl} {j v : Nat} (h : q_dr A D) : q_dr (va_up A 4 (upd (A 4) (16 + j) (nI v))) (D.1, D.2.1, va_up D.2.2.1 j v, D.2.2.2) := ⟨h.1, h.2.1, fun k hk => upd_nIo (h.2.2.1 k hk), h.2.2.2⟩
theorem q_dr.u5 {A : Nat → Nat → Int32} {D : Pl} {j v : Nat} (h : q_dr A D) : q_dr (va_up A 5 (upd (A 5) (32 + j) (nI v))) (D.1, D.2.1, D.2.2.1, va_up D.2.2.2.1 j v, D.2.2.2.2) := ⟨h.1, h.2.1, h.2.2.1, fun k hk => upd_nIo (h.2.2.2.1 k hk), h.2.2.2.2⟩
theorem q_dr.u60 {A : Nat → Nat → Int32} {D : Pl} {v : Nat} (h : q_dr A D) : q_dr (va_up A 6 (upd (A 6) (2 + 0) (nI v))) (D.1, D.2.1, D.2.2.1, D.2.2.2.1, v, D.2.2.2.2.2) := ⟨h.1, h.2.1, h.2.2.1, h.2.2.2.1, (show upd (A 6) (2 + 0) (nI v) (2 + 0) = nI v from upd_eq), (show upd (A 6) (2 + 0) (nI v) 3 = A 6 3 from upd_ne (by decide)).trans h.2.2.2.2.2.1, h.2.2.2.2.2.2⟩
theorem q_dr.u61 {A : Nat → Nat → Int32} {D : Pl} {v : Nat} (h : q_dr A D) : q_dr (va_up A 6 (upd (A 6) (2 + 1) (nI v))) (D.1, D.2.1, D.2.2.1, D.2.2.2.1, D.2.2.2.2.1, v, D.2.2.2.2.2.2) := ⟨h.1, h.2.1, h.2.2.1, h.2.2.2.1, (show upd (A 6) (2 + 1) (nI v) 2 = A 6 2 from upd_ne (by decide)).trans h.2.2.2.2.1, (show upd (A 6) (2 + 1) (nI v) (2 + 1) = nI v from upd_eq), h.2.2.2.2.2.2⟩
theorem q_ex.fr {A A1 : Nat → Nat → Int32} {a c : Nat} {u : List Int32} (h : q_fE a A A1) (hc : c ≠ a) (hu : u.length ≤ 620) (hx : q_ex A c u) : q_ex A1 c u := by
  refine ⟨(h.2.1 _ (by omega)).trans hx.1, fun j x hj => ?_⟩
  have hl := (List.getElem?_eq_some_iff.mp hj).1
  exact (h.2.2 _ (by omega)).trans (hx.2 j x hj)
theorem q_fE.u7 {A : Nat → Nat → Int32} {a : Nat} {v : Int32} : q_fE a A (va_up A 7 (upd (A 7) (2 + a) v)) := ⟨fun i h7 _ => vaA_ne h7, fun k hk => upd_ne hk, fun _ _ => rfl⟩
theorem q_ex0 {A : Nat → Nat → Int32} {a : Nat} : q_ex (va_up A 7 (upd (A 7) (2 + a) (nI 0))) a [] := ⟨upd_eq, fun j x hj => by simp at hj⟩
theorem q_dr.l0 {A A1 : Nat → Nat → Int32} {D : Pl} {l : List Int32} (hd : d_ok D) (h : q_dr A D) (hE : q_fE 0 A A1) (hx : q_ex A1 0 l) : q_dr A1 (D.1, D.2.1, D.2.2.1, D.2.2.2.1, D.2.2.2.2.1, D.2.2.2.2.2.1, l, D.2.2.2.2.2.2.2) := by
  have e := hE.1
  exact ⟨fun k hk => by rw [e 2 (by decide) (by decide)]; exact h.1 k hk, fun k hk => by rw [e 3 (by decide) (by decide)]; exact h.2.1 k hk, fun k hk => by rw [e 4 (by decide) (by decide)]; exact h.2.2.1 k hk, fun k hk => by rw [e 5 (by decide) (by decide)]; exact h.2.2.2.1 k hk, by rw [e 6 (by decide) (by decide)]; exact h.2.2.2.2.1, by rw [e 6 (by decide) (by decide)]; exact h.2.2.2.2.2.1, hx, q_ex.fr hE (by decide) (Nat.le_trans hd.2.2.2.2.2.1 (by decide)) h.2.2.2.2.2.2.2⟩
theorem q_dr.l1 {A A1 : Nat → Nat → Int32} {D : Pl} {l : List Int32} (hd : d_ok D) (h : q_dr A D) (hE : q_fE 1 A A1) (hx : q_ex A1 1 l) : q_dr A1 (D.1, D.2.1, D.2.2.1, D.2.2.2.1, D.2.2.2.2.1, D.2.2.2.2.2.1, D.2.2.2.2.2.2.1, l) := by
  have e := hE.1
  exact ⟨fun k hk => by rw [e 2 (by decide) (by decide)]; exact h.1 k hk, fun k hk => by rw [e 3 (by decide) (by decide)]; exact h.2.1 k hk, fun k hk => by rw [e 4 (by decide) (by decide)]; exact h.2.2.1 k hk, fun k hk => by rw [e 5 (by decide) (by decide)]; exact h.2.2.2.1 k hk, by rw [e 6 (by decide) (by decide)]; exact h.2.2.2.2.1, by rw [e 6 (by decide) (by decide)]; exact h.2.2.2.2.2.1, q_ex.fr hE (by decide) (Nat.le_trans hd.2.2.2.2.1.1 (by decide)) h.2.2.2.2.2.2.1, hx⟩
def q_sn (b0 b1 : Bool) : Nat := (if b0 then 1 else 0) + (if b1 then 2 else 0)
theorem q_sn_h0 (b0 b1 : Bool) : (if (nI (q_sn b0 b1) >>> (nI 0 &&& 31)) &&& 1 = 1 then (1 : Int32) else 0) = tB b0 := by revert b0 b1; decide
theorem q_sn_h1 (b0 b1 : Bool) : (if (nI (q_sn b0 b1) >>> (nI 1 &&& 31)) &&& 1 = 1 then (1 : Int32) else 0) = tB b1 := by revert b0 b1; decide
theorem q_sn_s0 (b0 b1 : Bool) : nI (q_sn b0 b1) ||| (nI 1 <<< (nI 0 &&& 31)) = nI (q_sn true b1) := by revert b0 b1; decide
theorem q_sn_s1 (b0 b1 : Bool) : nI (q_sn b0 b1) ||| (nI 1 <<< (nI 1 &&& 31)) = nI (q_sn b0 true) := by revert b0 b1; decide
