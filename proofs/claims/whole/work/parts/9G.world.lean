/-! THE CLASS BusBridge: its world -/
theorem w_cons {L : List Nat} {g : Nat → va_E} {o : Nat} {es : List va_E} {bs : bz_L} (h : bz_H L g o es) (hb : bz_W L g bs) (hd : ∀ b ∈ bs, o + es.length ≤ b.1 ∨ b.1 + b.2.length ≤ o) : bz_W L g ((o, es) :: bs) := by
  refine ⟨fun b hm => ?_, List.pairwise_cons.mpr ⟨hd, hb.2⟩⟩
  rcases List.mem_cons.mp hm with rfl | hm
  · exact h
  · exact hb.1 b hm
def bz_row : Nat → List (List va_E) → bz_L
  | _, [] => []
  | o, x :: r => (o, x) :: bz_row (o + x.length) r
theorem bz_row_ge : ∀ (ess : List (List va_E)) (o : Nat) (b : Nat × List va_E), b ∈ bz_row o ess → o ≤ b.1
  | [], _, _, h => by cases h
  | x :: r, o, b, h => by
    rcases List.mem_cons.mp h with rfl | h
    · exact Nat.le_refl _
    · exact Nat.le_trans (Nat.le_add_right _ _) (bz_row_ge r _ b h)
theorem bz_row_W {L : List Nat} {g : Nat → va_E} : ∀ (ess : List (List va_E)) (o : Nat), bz_H L g o ess.flatten → bz_W L g (bz_row o ess)
  | [], _, _ => ⟨fun b h => absurd h List.not_mem_nil, List.Pairwise.nil⟩
  | x :: r, o, h => by
    refine w_cons (fun i e he => h i e (by rw [List.flatten_cons, List.getElem?_append_left (List.getElem?_eq_some_iff.mp he).1]; exact he)) (bz_row_W r _ (fun i e he => ?_)) (fun b hb => Or.inl (bz_row_ge r _ b hb))
    have := h (x.length + i) e (by rw [List.flatten_cons, List.getElem?_append_right (by omega), Nat.add_sub_cancel_left]; exact he)
    rw [← Nat.add_assoc] at this
    exact this
theorem w_B1 {L : List Nat} {g0 g g1 : Nat → va_E} {bs : bz_L} {j o : Nat} {es es1 : List va_E} (h : bz_B L g0 g bs) (hb : bs[j]? = some (o, es)) (h1 : bz_B L g g1 [(o, es1)]) (hl : es1.length = es.length) : bz_B L g0 g1 (bs.set j (o, es1)) :=
  h.gen hb hl (h1.1.at (j := 0) rfl) (fun a ha => h1.2 a (fun r hr hc => by rw [List.mem_singleton.mp hr] at hc; dsimp only at hc; rw [hl] at hc; exact ha hc))

/-- what a class holds, told by mathematics -/
abbrev WA : Type := (Nat → Nat) × (Nat) × (Int32) × (Pl) × (Si) × (List Si) × (Option Si) × (Option Si)
abbrev WA.b (A : WA) : Nat → Nat := A.1
abbrev WA.n (A : WA) : Nat := A.2.1
abbrev WA.er (A : WA) : Int32 := A.2.2.1
abbrev WA.D (A : WA) : Pl := A.2.2.2.1
abbrev WA.s (A : WA) : Si := A.2.2.2.2.1
abbrev WA.hs (A : WA) : List Si := A.2.2.2.2.2.1
abbrev WA.s0 (A : WA) : Option Si := A.2.2.2.2.2.2.1
abbrev WA.s1 (A : WA) : Option Si := A.2.2.2.2.2.2.2
abbrev WA.u_b (A : WA) (x : Nat → Nat) : WA := (x, A.n, A.er, A.D, A.s, A.hs, A.s0, A.s1)
abbrev WA.u_n (A : WA) (x : Nat) : WA := (A.b, x, A.er, A.D, A.s, A.hs, A.s0, A.s1)
abbrev WA.u_er (A : WA) (x : Int32) : WA := (A.b, A.n, x, A.D, A.s, A.hs, A.s0, A.s1)
abbrev WA.u_D (A : WA) (x : Pl) : WA := (A.b, A.n, A.er, x, A.s, A.hs, A.s0, A.s1)
abbrev WA.u_s (A : WA) (x : Si) : WA := (A.b, A.n, A.er, A.D, x, A.hs, A.s0, A.s1)
abbrev WA.u_hs (A : WA) (x : List Si) : WA := (A.b, A.n, A.er, A.D, A.s, x, A.s0, A.s1)
abbrev WA.u_s0 (A : WA) (x : Option Si) : WA := (A.b, A.n, A.er, A.D, A.s, A.hs, x, A.s1)
abbrev WA.u_s1 (A : WA) (x : Option Si) : WA := (A.b, A.n, A.er, A.D, A.s, A.hs, A.s0, x)
/-- .. and by cells -/
abbrev WR : Type := (Nat) × (Nat) × (List va_E) × (PLR) × (PLR) × (SR) × (SR) × (Nat) × (Nat → SR) × (SR) × (SR)
abbrev WR.p (A : WR) : Nat := A.1
abbrev WR.q (A : WR) : Nat := A.2.1
abbrev WR.T (A : WR) : List va_E := A.2.2.1
abbrev WR.rp (A : WR) : PLR := A.2.2.2.1
abbrev WR.rq (A : WR) : PLR := A.2.2.2.2.1
abbrev WR.rS (A : WR) : SR := A.2.2.2.2.2.1
abbrev WR.rF (A : WR) : SR := A.2.2.2.2.2.2.1
abbrev WR.nw (A : WR) : Nat := A.2.2.2.2.2.2.2.1
abbrev WR.rB (A : WR) : Nat → SR := A.2.2.2.2.2.2.2.2.1
abbrev WR.r0 (A : WR) : SR := A.2.2.2.2.2.2.2.2.2.1
abbrev WR.r1 (A : WR) : SR := A.2.2.2.2.2.2.2.2.2.2
abbrev WR.u_p (A : WR) (x : Nat) : WR := (x, A.q, A.T, A.rp, A.rq, A.rS, A.rF, A.nw, A.rB, A.r0, A.r1)
abbrev WR.u_q (A : WR) (x : Nat) : WR := (A.p, x, A.T, A.rp, A.rq, A.rS, A.rF, A.nw, A.rB, A.r0, A.r1)
abbrev WR.u_T (A : WR) (x : List va_E) : WR := (A.p, A.q, x, A.rp, A.rq, A.rS, A.rF, A.nw, A.rB, A.r0, A.r1)
abbrev WR.u_rp (A : WR) (x : PLR) : WR := (A.p, A.q, A.T, x, A.rq, A.rS, A.rF, A.nw, A.rB, A.r0, A.r1)
abbrev WR.u_rq (A : WR) (x : PLR) : WR := (A.p, A.q, A.T, A.rp, x, A.rS, A.rF, A.nw, A.rB, A.r0, A.r1)
abbrev WR.u_rS (A : WR) (x : SR) : WR := (A.p, A.q, A.T, A.rp, A.rq, x, A.rF, A.nw, A.rB, A.r0, A.r1)
abbrev WR.u_rF (A : WR) (x : SR) : WR := (A.p, A.q, A.T, A.rp, A.rq, A.rS, x, A.nw, A.rB, A.r0, A.r1)
abbrev WR.u_nw (A : WR) (x : Nat) : WR := (A.p, A.q, A.T, A.rp, A.rq, A.rS, A.rF, x, A.rB, A.r0, A.r1)
abbrev WR.u_rB (A : WR) (x : Nat → SR) : WR := (A.p, A.q, A.T, A.rp, A.rq, A.rS, A.rF, A.nw, x, A.r0, A.r1)
abbrev WR.u_r0 (A : WR) (x : SR) : WR := (A.p, A.q, A.T, A.rp, A.rq, A.rS, A.rF, A.nw, A.rB, x, A.r1)
abbrev WR.u_r1 (A : WR) (x : SR) : WR := (A.p, A.q, A.T, A.rp, A.rq, A.rS, A.rF, A.nw, A.rB, A.r0, x)
abbrev w_obj (o p q : Nat) (n er v0 v1 : Int32) : List va_E := [.inr (8, [.ref (o + 1), .int n, .int er, .ref (o + 2), .ref p, .ref q, .ref (o + 27), .ref (o + 54), .ref (o + 81), .ref (o + 353), .ref (o + 380), .int v0, .int v1])]
abbrev w_bs (E : bz_E) (o : Nat) (A : WA) (R : WR) : bz_L := [(o, w_obj o R.p R.q (nI A.n) A.er (tB A.s0.isSome) (tB A.s1.isSome)), (o + 1, b_In E A.b), (o + 2, R.T), (R.p, b_PL E R.p R.rp), (R.q, b_PL E R.q R.rq), (o + 27, b_Sit E (o + 27) R.rS), (o + 54, b_Sit E (o + 54) R.rF), (o + 81, b_Hist E (o + 81) (h_f (o + 81) 10) (nI R.nw) (nI A.hs.length)), (o + 81 + 1 + (1 + 27 * 0), b_Sit E (o + 81 + 1 + (1 + 27 * 0)) (R.rB 0)), (o + 81 + 1 + (1 + 27 * 1), b_Sit E (o + 81 + 1 + (1 + 27 * 1)) (R.rB 1)), (o + 81 + 1 + (1 + 27 * 2), b_Sit E (o + 81 + 1 + (1 + 27 * 2)) (R.rB 2)), (o + 81 + 1 + (1 + 27 * 3), b_Sit E (o + 81 + 1 + (1 + 27 * 3)) (R.rB 3)), (o + 81 + 1 + (1 + 27 * 4), b_Sit E (o + 81 + 1 + (1 + 27 * 4)) (R.rB 4)), (o + 81 + 1 + (1 + 27 * 5), b_Sit E (o + 81 + 1 + (1 + 27 * 5)) (R.rB 5)), (o + 81 + 1 + (1 + 27 * 6), b_Sit E (o + 81 + 1 + (1 + 27 * 6)) (R.rB 6)), (o + 81 + 1 + (1 + 27 * 7), b_Sit E (o + 81 + 1 + (1 + 27 * 7)) (R.rB 7)), (o + 81 + 1 + (1 + 27 * 8), b_Sit E (o + 81 + 1 + (1 + 27 * 8)) (R.rB 8)), (o + 81 + 1 + (1 + 27 * 9), b_Sit E (o + 81 + 1 + (1 + 27 * 9)) (R.rB 9)), (o + 353, b_Sit E (o + 353) R.r0), (o + 380, b_Sit E (o + 380) R.r1)]
theorem w_bs_at {E : bz_E} {o n : Nat} {A : WA} {R : WR} (h : n < 10) : (w_bs E o A R)[8 + n]? = some (o + 81 + 1 + (1 + 27 * n), b_Sit E (o + 81 + 1 + (1 + 27 * n)) (R.rB n)) := by
  rcases (show n = 0 ∨ n = 1 ∨ n = 2 ∨ n = 3 ∨ n = 4 ∨ n = 5 ∨ n = 6 ∨ n = 7 ∨ n = 8 ∨ n = 9 by omega) with rfl | rfl | rfl | rfl | rfl | rfl | rfl | rfl | rfl | rfl <;> rfl
theorem w_bs_set {E : bz_E} {o n : Nat} {A : WA} {R : WR} {r : SR} (h : n < 10) : (w_bs E o A R).set (8 + n) (o + 81 + 1 + (1 + 27 * n), b_Sit E (o + 81 + 1 + (1 + 27 * n)) r) = w_bs E o A (R.u_rB (va_up R.rB n r)) := by
  rcases (show n = 0 ∨ n = 1 ∨ n = 2 ∨ n = 3 ∨ n = 4 ∨ n = 5 ∨ n = 6 ∨ n = 7 ∨ n = 8 ∨ n = 9 by omega) with rfl | rfl | rfl | rfl | rfl | rfl | rfl | rfl | rfl | rfl <;> rfl
def h_at (nw len i : Nat) : Nat := (nw + 11 + i - len) % 10
def h_rg (nw : Nat) (hs : List Si) (rB : Nat → SR) : Prop := ∀ (i : Nat) (τ : Si), hs[i]? = some τ → s_srep (rB (h_at nw hs.length i)) τ
theorem h_rg_kp {nw : Nat} {hs : List Si} {rB : Nat → SR} {r : SR} {σ : Si} (hn : nw < 10) (hl : hs.length ≤ 10) (h : h_rg nw hs rB) (hr : s_srep r σ) : h_rg (s_nx nw) (s_kp hs σ) (va_up rB (s_nx nw) r) := by
  have hnx : s_nx nw = (nw + 1) % 10 := by unfold s_nx; split <;> omega
  rw [hnx]
  intro i τ hi
  unfold s_kp at hi ⊢
  by_cases h10 : hs.length = 10
  · rw [if_pos h10] at hi ⊢
    have hlt : hs.tail.length = 9 := by rw [List.length_tail]; omega
    have hle : (hs.tail ++ [σ]).length = 10 := by rw [List.length_append, hlt]; rfl
    rw [hle]
    rcases Nat.lt_or_ge i 9 with c | c
    · rw [List.getElem?_append_left (by omega), List.getElem?_tail] at hi
      have := h (i + 1) τ hi
      unfold h_at at this ⊢
      rw [h10] at this
      unfold va_up
      rw [if_neg (by omega), show ((nw + 1) % 10 + 11 + i - 10) % 10 = (nw + 11 + (i + 1) - 10) % 10 by omega]
      exact this
    · rw [List.getElem?_append_right (by omega), hlt] at hi
      have hi9 : i = 9 := by have := (List.getElem?_eq_some_iff.mp hi).1; simp at this; omega
      subst hi9
      cases hi
      unfold h_at va_up
      rw [if_pos (by omega)]
      exact hr
  · rw [if_neg h10] at hi ⊢
    rw [List.length_append, show [σ].length = 1 from rfl]
    rcases Nat.lt_or_ge i hs.length with c | c
    · rw [List.getElem?_append_left c] at hi
      have := h i τ hi
      unfold h_at at this ⊢
      unfold va_up
      rw [if_neg (by omega), show ((nw + 1) % 10 + 11 + i - (hs.length + 1)) % 10 = (nw + 11 + i - hs.length) % 10 by omega]
      exact this
    · rw [List.getElem?_append_right c] at hi
      have hi9 : i = hs.length := by have := (List.getElem?_eq_some_iff.mp hi).1; simp at this; omega
      subst hi9
      rw [Nat.sub_self] at hi
      cases hi
      unfold h_at va_up
      rw [if_pos (by omega)]
      exact hr
theorem h_rg_tb {nw : Nat} {hs : List Si} {rB : Nat → SR} {σ : Si} (hn : nw < 10) (hl : hs.length + 1 ≤ 10) (h : h_rg nw (hs ++ [σ]) rB) : s_srep (rB nw) σ ∧ h_rg (s_pv nw) hs rB := by
  have hpv : s_pv nw = (nw + 9) % 10 := by unfold s_pv; split <;> omega
  rw [hpv]
  constructor
  · have := h hs.length σ (by rw [List.getElem?_append_right (Nat.le_refl _), Nat.sub_self]; rfl)
    unfold h_at at this
    rw [List.length_append, show [σ].length = 1 from rfl, show (nw + 11 + hs.length - (hs.length + 1)) % 10 = nw by omega] at this
    exact this
  · intro i τ hi
    have hlt := (List.getElem?_eq_some_iff.mp hi).1
    have := h i τ (by rw [List.getElem?_append_left hlt]; exact hi)
    unfold h_at at this ⊢
    rw [List.length_append, show [σ].length = 1 from rfl] at this
    rw [show ((nw + 9) % 10 + 11 + i - hs.length) % 10 = (nw + 11 + i - (hs.length + 1)) % 10 by omega]
    exact this
theorem s_kp_len {hs : List Si} {σ : Si} (h : hs.length ≤ 10) : (s_kp hs σ).length = min 10 (hs.length + 1) := by
  unfold s_kp
  rw [List.length_append, show [σ].length = 1 from rfl]
  split
  · rw [List.length_tail]; omega
  · omega
def w_T (E : bz_E) (o : Nat) (T : List va_E) : Prop := ∃ (x n af tk tp : Nat) (nm er ep hs ht : Int32) (f0 pd : Nat → Int32) (pc op : Int32), T = b_T E (o + 2) x n af tk tp nm er ep hs ht f0 pd pc op
def w_ok (E : bz_E) (o : Nat) (A : WA) (R : WR) : Prop := A.n ≤ 600 ∧ (∀ i, A.b i < 256) ∧ (R.p = o + 5 ∧ R.q = o + 16 ∨ R.p = o + 16 ∧ R.q = o + 5) ∧ w_T E o R.T ∧ d_rep R.rp A.D ∧ s_srep R.rS A.s ∧ R.nw < 10 ∧ A.hs.length ≤ 10 ∧ h_rg R.nw A.hs R.rB ∧ (∀ τ, A.s0 = some τ → s_srep R.r0 τ) ∧ ∀ τ, A.s1 = some τ → s_srep R.r1 τ
def w_X (E : bz_E) (L : List Nat) (g : Nat → va_E) (o : Nat) (A : WA) : Prop := ∃ R : WR, bz_W L g (w_bs E o A R) ∧ w_ok E o A R
def w_P (E : bz_E) (L : List Nat) (g : Nat → va_E) (o : Nat) (A : WA) (g1 : Nat → va_E) : Prop := bz_S g1 g [(o, 407)] ∧ w_X E L g1 o A
theorem w_T.len {E : bz_E} {o : Nat} {T : List va_E} (h : w_T E o T) : T.length = 3 := by
  obtain ⟨x, n, af, tk, tp, nm, er, ep, hs, ht, f0, pd, pc, op, rfl⟩ := h
  rfl
theorem w_fr {E : bz_E} {o : Nat} {A : WA} {R : WR} {g g1 : Nat → va_E} (hk : w_ok E o A R) (h : bz_S g1 g ((w_bs E o A R).map (fun b => (b.1, b.2.length)))) : bz_S g1 g [(o, 407)] := by
  have hT := hk.2.2.2.1.len
  have hp := hk.2.2.1
  intro a ha
  have ha := ha (o, 407) List.mem_cons_self
  refine h a (fun r hr hc => ha ?_)
  have key : ∀ b ∈ w_bs E o A R, o ≤ b.1 ∧ b.1 + b.2.length ≤ o + 407 := by
    intro b hb
    simp only [w_bs, List.mem_cons, List.not_mem_nil, or_false] at hb
    rcases hb with rfl | rfl | rfl | rfl | rfl | rfl | rfl | rfl | rfl | rfl | rfl | rfl | rfl | rfl | rfl | rfl | rfl | rfl | rfl | rfl
    all_goals first | (show o ≤ o + 2 ∧ o + 2 + R.T.length ≤ o + 407; omega) | (show o ≤ R.p ∧ R.p + 11 ≤ o + 407; omega) | (show o ≤ R.q ∧ R.q + 11 ≤ o + 407; omega) | (show o ≤ _ ∧ _ + 27 ≤ o + 407; omega) | (show o ≤ _ ∧ _ + 2 ≤ o + 407; omega) | (show o ≤ _ ∧ _ + 1 ≤ o + 407; omega)
  obtain ⟨b, hb, rfl⟩ := List.mem_map.mp hr
  have := key b hb
  dsimp only at hc
  exact ⟨by omega, by omega⟩
theorem w_to {E : bz_E} {L : List Nat} {o : Nat} {A : WA} {R : WR} {g g1 : Nat → va_E} (hB : bz_B L g g1 (w_bs E o A R)) (hk : w_ok E o A R) : w_P E L g o A g1 := ⟨w_fr hk hB.2, R, hB.1, hk⟩
def s_cm (σ : Si) (m0 m1 : Nat → Int32) : Si := (σ.1, (σ.2.1.1, σ.2.1.2.1, σ.2.1.2.2.1, va_cpy σ.2.1.2.2.2.1 m0 0 0 16, σ.2.1.2.2.2.2), (σ.2.2.1, σ.2.2.2.1, σ.2.2.2.2.1, va_cpy σ.2.2.2.2.2.1 m1 0 0 16, σ.2.2.2.2.2.2))
abbrev s_m (r : PR) : Nat → Int32 := r.2.2.2.2.2.2.2.2.2.2.1
theorem s_cps_rep {r0 r2 : SR} {σ : Si} (h : s_srep r2 σ) : s_srep (s_cps r0 r2 σ) (s_cm σ (s_m r0.2.2.1) (s_m r0.2.2.2)) := ⟨h.1, s_cpr_rep h.2.1, s_cpr_rep h.2.2⟩

