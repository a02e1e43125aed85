/-! the class: post, read, configure, release -/
theorem w_cnt8 {P : List Tx} {x : Tx} (h : s_lok P) (hx : s_ok x) (hc : s_cnt (tK x) P < 8) : s_lok (P ++ [x]) := by
  refine ⟨fun y hy => ?_, fun k hk => ?_⟩
  · rcases List.mem_append.mp hy with h1 | h1
    · exact h.1 y h1
    · rw [List.mem_singleton.mp h1]; exact hx
  · rw [s_cnt_app]
    have := h.2 k hk
    by_cases e : tK x = k
    · subst e; rw [if_pos rfl]; omega
    · rw [if_neg e]; omega
theorem w_que {r : PR} {P : Po} {x : Tx} {f1 c1 : Nat → Int32} (h : s_rep r P) (hx : s_tx f1 P.1.length x) (hok : s_ok x) (hcnt : s_cnt (tK x) P.1 < 8) (hf : ∀ j, j < P.1.length * 11 → f1 j = r.1 j) (hc : ∀ k, k < 4 → c1 k = r.2.1 k + nI (if tK x = k then 1 else 0)) : s_rep (f1, c1, nI (P.1.length + 1), r.2.2.2) (P.1 ++ [x], P.2) :=
  ⟨s_ln_app h.2.2.1.1 h.1 hx hf hc, by show nI (P.1.length + 1) = nI (P.1 ++ [x]).length; rw [List.length_append]; rfl, w_cnt8 h.2.2.1 hok hcnt, h.2.2.2⟩
theorem w_upc {c : Nat → Int32} {k : Nat} : ∀ j, j < 4 → upd c k (c k + nI 1) j = c j + nI (if k = j then 1 else 0) := by
  intro j _
  by_cases e : k = j
  · subst e; rw [if_pos rfl, upd_eq]
  · rw [if_neg e, upd_ne (Ne.symm e)]; exact (Int32.add_zero _).symm
theorem w_vals_at {v : Int32} {wd j : Nat} {y : Int32} (hw : wd ≤ 4) (h : (s_vals v wd)[j]? = some y) : j < 4 ∧ v + nI j = y := by
  unfold s_vals at h
  rw [List.getElem?_map, Option.map_eq_some_iff] at h
  obtain ⟨i, hi, rfl⟩ := h
  obtain ⟨h1, h2⟩ := List.getElem?_eq_some_iff.mp hi
  rw [List.length_range] at h1
  rw [List.getElem_range] at h2
  subst h2
  exact ⟨by omega, rfl⟩
theorem w_op_lo {f : Nat → Int32} {n k j : Nat} {tag rel ad wd tm : Int32} (h : j < n * 11) : v_open f n k tag rel ad wd tm j = f j := v_open_lo h
theorem w_vv_lo {f : Nat → Int32} {n j : Nat} {v : Int32} (h : j < n * 11) : v_vals f n v j = f j := by
  unfold v_vals
  rw [upd_ne (by omega), upd_ne (by omega), upd_ne (by omega), upd_ne (by omega)]
theorem w_vv_mid {f : Nat → Int32} {n j : Nat} {v : Int32} (h : j < 7) : v_vals f n v (n * 11 + j) = f (n * 11 + j) := by
  unfold v_vals
  rw [upd_ne (by omega), upd_ne (by omega), upd_ne (by omega), upd_ne (by omega)]
theorem w_vv_at {f : Nat → Int32} {n j : Nat} {v : Int32} (h : j < 4) : v_vals f n v (n * 11 + (7 + j)) = v + nI j := by
  unfold v_vals
  rcases (show j = 0 ∨ j = 1 ∨ j = 2 ∨ j = 3 by omega) with rfl | rfl | rfl | rfl
  · rw [upd_ne (by omega), upd_ne (by omega), upd_ne (by omega), upd_eq]
  · rw [upd_ne (by omega), upd_ne (by omega), upd_eq]
  · rw [upd_ne (by omega), upd_eq]
  · rw [upd_eq]
theorem w_tx0 {f : Nat → Int32} {n k t ad wd now : Nat} {rx : Bool} {vs : List Int32} {f1 : Nat → Int32} (h7 : ∀ j, j < 7 → f1 (n * 11 + j) = v_open f n k (if k = 0 then -1 else nI t) (tB rx) (nI ad) (nI wd) (nI now) (n * 11 + j)) (hv : ∀ (j : Nat) (v : Int32), vs[j]? = some v → f1 (n * 11 + (7 + j)) = v) : s_tx f1 n (s_ent k t rx ad wd now vs) := by
  refine ⟨?_, ?_, ?_, ?_, ?_, ?_, ?_, hv⟩
  · rw [h7 0 (by decide)]; unfold v_open; rw [upd_ne (by omega), upd_ne (by omega), upd_ne (by omega), upd_ne (by omega), upd_ne (by omega), upd_ne (by omega), upd_eq]; rfl
  · rw [h7 1 (by decide)]; unfold v_open; rw [upd_ne (by omega), upd_ne (by omega), upd_ne (by omega), upd_ne (by omega), upd_ne (by omega), upd_eq]; rfl
  · rw [h7 2 (by decide)]; unfold v_open; rw [upd_ne (by omega), upd_ne (by omega), upd_ne (by omega), upd_ne (by omega), upd_eq]; rfl
  · rw [h7 3 (by decide)]; unfold v_open; rw [upd_ne (by omega), upd_ne (by omega), upd_ne (by omega), upd_eq]; rfl
  · rw [h7 4 (by decide)]; unfold v_open; rw [upd_ne (by omega), upd_ne (by omega), upd_eq]; rfl
  · rw [h7 5 (by decide)]; unfold v_open; rw [upd_ne (by omega), upd_eq]; rfl
  · rw [h7 6 (by decide)]; unfold v_open; rw [upd_eq]; rfl
theorem w_txv {f : Nat → Int32} {n k t ad wd now : Nat} {rx : Bool} {v : Int32} (hw : wd ≤ 4) : s_tx (v_vals (v_open f n k (if k = 0 then -1 else nI t) (tB rx) (nI ad) (nI wd) (nI now)) n v) n (s_ent k t rx ad wd now (s_vals v wd)) :=
  w_tx0 (fun j hj => w_vv_mid hj) (fun j y hy => by obtain ⟨h4, rfl⟩ := w_vals_at hw hy; exact w_vv_at h4)
theorem w_txr {f : Nat → Int32} {n t ad wd now : Nat} {rx : Bool} : s_tx (v_open f n 1 (nI t) (tB rx) (nI ad) (nI wd) (nI now)) n (s_ent 1 t rx ad wd now []) :=
  w_tx0 (k := 1) (f := f) (fun j hj => rfl) (fun j y hy => by simp at hy)
theorem w_vals_len (v : Int32) (wd : Nat) : (s_vals v wd).length = wd := by unfold s_vals; rw [List.length_map, List.length_range]
theorem w_tgb {s wn cm wd : Nat → Int32} {T : Tg} {t w : Nat} (h : s_tg s wn cm wd T) (hw : w ≤ 4) : s_tg (upd s t (nI 1)) (upd wn t (nI w)) (upd cm t (nI 0)) wd (s_bgn T t w) := by
  refine ⟨fun i hi => ?_, h.2⟩
  have h1 := h.1 i hi
  unfold s_bgn va_up
  by_cases e : i = t
  · subst e
    dsimp only
    rw [if_pos rfl, if_pos rfl, if_pos rfl]
    exact ⟨upd_eq, upd_eq, upd_eq, hw, by decide⟩
  · dsimp only
    rw [if_neg e, if_neg e, if_neg e, upd_ne e, upd_ne e, upd_ne e]
    exact h1
theorem w_tgr {s wn cm wd : Nat → Int32} {T : Tg} {t : Nat} (h : s_tg s wn cm wd T) : s_tg (upd s t (nI 0)) (upd wn t (nI 0)) (upd cm t (nI 0)) wd (s_rls T t) := by
  refine ⟨fun i hi => ?_, h.2⟩
  have h1 := h.1 i hi
  unfold s_rls va_up
  by_cases e : i = t
  · subst e
    dsimp only
    rw [if_pos rfl, if_pos rfl, if_pos rfl]
    exact ⟨upd_eq, upd_eq, upd_eq, by decide, by decide⟩
  · dsimp only
    rw [if_neg e, if_neg e, if_neg e, upd_ne e, upd_ne e, upd_ne e]
    exact h1

/-- the history has taken the situation -/
theorem w_rem {E : bz_E} {L : List Nat} {g g1 : Nat → va_E} {o : Nat} {A : WA} {R : WR} (hW : bz_W L g (w_bs E o A R)) (hk : w_ok E o A R) (h1 : bz_B L g g1 [(o + 81, b_Hist E (o + 81) (h_f (o + 81) 10) (nI (s_nx R.nw)) (nI (min 10 (A.hs.length + 1)))), (o + 81 + 1 + (1 + 27 * s_nx R.nw), b_Sit E (o + 81 + 1 + (1 + 27 * s_nx R.nw)) (s_cps (R.rB (s_nx R.nw)) R.rS A.s)), (o + 27, b_Sit E (o + 27) R.rS)]) :
    ∃ (τ : Si) (nw1 : Nat) (rB1 : Nat → SR), s_like A.s τ ∧ bz_B L g g1 (w_bs E o (A.u_hs (s_kp A.hs τ)) ((R.u_nw nw1).u_rB rB1)) ∧ w_ok E o (A.u_hs (s_kp A.hs τ)) ((R.u_nw nw1).u_rB rB1) := by
  obtain ⟨hn6, hb6, hpq, hT, hD, hS, hnw, hlen, hrg, hs0, hs1⟩ := hk
  have hnx := s_nx_lt R.nw
  have hrep := s_cps_rep (r0 := R.rB (s_nx R.nw)) hS
  refine ⟨_, s_nx R.nw, va_up R.rB (s_nx R.nw) (s_cps (R.rB (s_nx R.nw)) R.rS A.s), ⟨_, _, rfl⟩, ?_, hn6, hb6, hpq, hT, hD, hS, hnx, ?_, h_rg_kp hnw hlen hrg hrep, hs0, hs1⟩
  · rw [← s_kp_len (σ := s_cm A.s (s_m (R.rB (s_nx R.nw)).2.2.1) (s_m (R.rB (s_nx R.nw)).2.2.2)) hlen] at h1
    obtain ⟨gm, m1, gn, m2, m3⟩ := bz_B.mid3 (hW.at (j := 7) rfl) (hW.at (w_bs_at hnx)) (by rfl) (by rfl) h1
    have hB1 : bz_B _ _ _ (w_bs E o (A.u_hs (s_kp A.hs (s_cm A.s (s_m (R.rB (s_nx R.nw)).2.2.1) (s_m (R.rB (s_nx R.nw)).2.2.2)))) (R.u_nw (s_nx R.nw))) := w_B1 (j := 7) (bz_B.rf hW) rfl m1 rfl
    have hB2 := w_B1 (j := 8 + s_nx R.nw) hB1 (w_bs_at hnx) m2 rfl
    rw [w_bs_set hnx] at hB2
    exact w_B1 (j := 5) hB2 rfl m3 rfl
  · show (s_kp A.hs _).length ≤ 10
    rw [s_kp_len hlen]
    exact Nat.min_le_left _ _

