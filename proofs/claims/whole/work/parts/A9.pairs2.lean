/-! THE LAW: the pairs of calls, figures and looks ahead -/
theorem lw_rng {v : Int32} {lo hi : Nat} (hlo : lo ≤ 1) (hh : hi < 2 ^ 31) (h : ¬ (if v < nI lo then (0 : Int32) else if nI hi < v then 0 else 1) = nI 0) : ∃ t, lo ≤ t ∧ t ≤ hi ∧ v = nI t := by
  by_cases c1 : v < nI lo
  · exact absurd (by rw [if_pos c1]; rfl) h
  by_cases c2 : nI hi < v
  · exact absurd (by rw [if_neg c1, if_pos c2]; rfl) h
  have h0 : ¬ v < 0 := fun e => c1 (by
    rw [Int32.lt_iff_toInt_lt] at e ⊢
    rw [nI_toInt (show lo < 2 ^ 31 by omega)]
    have : (0 : Int32).toInt = 0 := by decide
    omega)
  obtain ⟨j, hj, rfl⟩ := nI_of (x := v) h0
  rw [Int32.lt_iff_toInt_lt, nI_toInt hj, nI_toInt (show lo < 2 ^ 31 by omega)] at c1
  rw [Int32.lt_iff_toInt_lt, nI_toInt hj, nI_toInt hh] at c2
  exact ⟨j, by omega, by omega, rfl⟩
def lw_PD (l : Launch) (E : bz_E) (L : List Nat) (o : Nat) (g : Nat → va_E) (MH : bz_M) (t : bz_HT) (MR : bz_M) (avH avR : List Value) (P : Value → UInt64 → Prop) : Prop :=
  bz_KH l E MH t 12 avH L g (fun r g1 => ∃ k : Nat, k ≤ 3 ∧ r = some (.int (nI k)) ∧ lw_m L g1 (o + 407) 9 ∧ ∃ d2 : Nat, d2 < 30 ∧ bz_K l E MR d2 avR L g1 (fun r2 g2 => ∃ (vl : Value) (dv : UInt64), r2 = some vl ∧ P vl dv ∧ ∃ A I B U V, lw_J E L g2 o A I B U V ∧ I 0 = nI k ∧ (k = 0 → V 0 = dv)))
def lw_vD (vl : Value) (dv : UInt64) : Prop := vl = .double dv ∧ d_z dv
def lw_vF (vl : Value) (dv : UInt64) : Prop := ∃ f : UInt32, vl = .float f ∧ dv = FP.f2d f ∧ d_z dv
section PD
variable {l : Launch} {E : bz_E} {L : List Nat} {o : Nat} {g : Nat → va_E} {A : WA} {I : Nat → Int32} {B : Nat → Nat → Int32} {U : Nat → Int64} {V : Nat → UInt64} {P : Value → UInt64 → Prop}
theorem lw_DX {MH MR : bz_M} {t : bz_HT} {avH avR : List Value} {d3 : Nat} {vl : Value} {dv : UInt64} (hJ : lw_J E L g o A I B U V) (h : bz_KH l E MH t 12 avH L g (fun r g1 => r = some (.int (nI 1)) ∧ g1 = g)) (hd : d3 < 30) (hP : P vl dv) (hr : ∀ g1 : Nat → va_E, bz_H L g1 (o + 407) (b_Mod E (o + 407) I B) → bz_K l E MR d3 avR L g1 (fun r g2 => r = some vl ∧ bz_B L g1 g2 [(o + 407, b_Mod E (o + 407) (va_up I 0 (nI 1)) B)])) : lw_PD l E L o g MH t MR avH avR P :=
  h.imp (fun r g1 hh => by
    obtain ⟨rfl, rfl⟩ := hh
    obtain ⟨h1, h2, h3, h4, h5⟩ := hJ
    refine ⟨1, by decide, rfl, lw_m9 h2, d3, hd, (hr g1 h2).imp (fun r2 g2 hr => ?_)⟩
    obtain ⟨rfl, k1⟩ := hr
    have hS2 : bz_S g2 g1 [(o + 407, 16)] := k1.2
    exact ⟨vl, dv, rfl, hP, A, _, B, U, V, ⟨lw_kX h1 hS2 (Nat.le_refl _), k1.1.at (j := 0) rfl, lw_kH h3 hS2 (Or.inr (by omega)), lw_kH h4 hS2 (Or.inr (by omega)), h5.mark _⟩, rfl, fun h => absurd h (by decide)⟩)
theorem lw_D2 {T : Type} {f : T → UInt64} {v0 : T} {MH MR : bz_M} {t : bz_HT} {avH avR : List Value} {d3 : Nat} {vl : Value} (hJ : lw_J E L g o A I B U V) (h : bz_KH l E MH t 12 avH L g (fun r g1 => r = some (.int (nI 0)) ∧ ∃ (v : T) (g9 : Nat → va_E), (v = v0 ∧ g9 = g) ∧ bz_B L g9 g1 [(o + 424, [eD E (va_up V 0 (f v))])])) (hd : d3 < 30) (hP : P vl (f v0)) (hr : ∀ g1 : Nat → va_E, bz_H L g1 (o + 407) (b_Mod E (o + 407) I B) → bz_K l E MR d3 avR L g1 (fun r g2 => r = some vl ∧ bz_B L g1 g2 [(o + 407, b_Mod E (o + 407) (va_up I 0 (nI 0)) B)])) : lw_PD l E L o g MH t MR avH avR P :=
  h.imp (fun r g1 hh => by
    obtain ⟨rfl, v, g9, ⟨rfl, rfl⟩, h5⟩ := hh
    obtain ⟨j1, j2, j3, j4, j5⟩ := hJ
    have hS : bz_S g1 g9 [(o + 424, 1)] := h5.2
    have hm := lw_kH j2 hS (Or.inl (by show o + 407 + 16 ≤ o + 424; omega))
    refine ⟨0, by decide, rfl, lw_m9 hm, d3, hd, (hr g1 hm).imp (fun r2 g2 hr => ?_)⟩
    obtain ⟨rfl, k1⟩ := hr
    have hS2 : bz_S g2 g1 [(o + 407, 16)] := k1.2
    exact ⟨vl, f v, rfl, hP, A, _, B, U, _, ⟨lw_kX (lw_kX j1 hS (by omega)) hS2 (Nat.le_refl _), k1.1.at (j := 0) rfl, lw_kH (lw_kH j3 hS (Or.inl (by show o + 423 + 1 ≤ o + 424; omega))) hS2 (Or.inr (by omega)), lw_kH (h5.1.at (j := 0) rfl) hS2 (Or.inr (by omega)), j5.mark _⟩, rfl, fun _ => by unfold va_up; rw [if_pos rfl]⟩)
end PD
-- made by gA9.py
theorem pd_utilisation {l : Launch} {E : bz_E} {L : List Nat} {o : Nat} {g : Nat → va_E} {A : WA} {I : Nat → Int32} {B : Nat → Nat → Int32} {U : Nat → Int64} {V : Nat → UInt64} (hl : l.stackTraces = false) (hJ : lw_J E L g o A I B U V) (v1 : Int32) : lw_PD l E L o g mL_utilisation tL_utilisation mX9_utilisation [.ref o, .int v1, .ref (o + 424)] [.ref (o + 407), .int v1] lw_vD := by
  obtain ⟨hX, hM, hU, hV, ht⟩ := id hJ
  obtain ⟨ho, fs, hg⟩ := lw_m8 hX
  obtain ⟨R, hW, hk⟩ := id hX
  obtain ⟨hn6, hb6, hpq, hT, hD, hS, hnw, hlen, hrg, hs0, hs1⟩ := id hk
  have W3 := w_pick3 hW 0 3 5 rfl rfl rfl (by decide) (by decide) (by decide)
  obtain ⟨td, tp, ts, ti, tu, tl, th, tn, tb, te, tv⟩ := id ht
  have bd := ti.2.1.bd ti.2.2
  have ht9 := ti.2.2
  by_cases hb : m_bad v1 2 = true
  · exact lw_DX hJ (hx_utilisation_IOE (by decide) ho hg (c8_utilisation1 hl hb)) (by decide) ⟨rfl, Or.inl rfl⟩ (fun g1 h1 => c_mutilisation1 hb h1)
  obtain ⟨s, hs, rfl⟩ := m_badE (v := v1) (m := 2) (by decide) (by simpa using hb)
  have sd := m_st_sd hs ts
  have hc := c8_utilisation0 (l := l) hs (by omega) bd.1 bd.2 hS hD W3
  exact lw_D2 (f := fun v : UInt64 => v) (v0 := d_u (s_sd s A.s).2.2.2.2.1 A.s.1) hJ (hl_utilisation (by decide) ho hg (hc.imp (fun r g1 h => ⟨_, h.1, by rw [h.2]; exact hV, rfl, h.2⟩))) (by decide) ⟨rfl, d_u_z (bd.1 s hs) (by omega)⟩ (fun g1 h1 => c_mutilisation0 hs sd.2.2.1 ts.1 (bd.1 s hs) (by omega) h1)
theorem pd_averageWait {l : Launch} {E : bz_E} {L : List Nat} {o : Nat} {g : Nat → va_E} {A : WA} {I : Nat → Int32} {B : Nat → Nat → Int32} {U : Nat → Int64} {V : Nat → UInt64} (hl : l.stackTraces = false) (hJ : lw_J E L g o A I B U V) (v1 : Int32) : lw_PD l E L o g mL_averageWait tL_averageWait mX9_averageWait [.ref o, .int v1, .ref (o + 424)] [.ref (o + 407), .int v1] lw_vF := by
  obtain ⟨hX, hM, hU, hV, ht⟩ := id hJ
  obtain ⟨ho, fs, hg⟩ := lw_m8 hX
  obtain ⟨R, hW, hk⟩ := id hX
  obtain ⟨hn6, hb6, hpq, hT, hD, hS, hnw, hlen, hrg, hs0, hs1⟩ := id hk
  have W3 := w_pick3 hW 0 3 5 rfl rfl rfl (by decide) (by decide) (by decide)
  obtain ⟨td, tp, ts, ti, tu, tl, th, tn, tb, te, tv⟩ := id ht
  have bd := ti.2.1.bd ti.2.2
  have ht9 := ti.2.2
  by_cases hb : m_bad v1 2 = true
  · exact lw_DX hJ (dv := 0) (hx_averageWait_IOE (by decide) ho hg (c8_averageWait1 hl hb)) (by decide) ⟨0, rfl, d_of_f0.symm, Or.inl rfl⟩ (fun g1 h1 => c_maverageWait1 hb h1)
  obtain ⟨s, hs, rfl⟩ := m_badE (v := v1) (m := 2) (by decide) (by simpa using hb)
  have sd := m_st_sd hs ts
  have hc := c8_averageWait0 (l := l) hs bd.1 bd.2 hS hD W3
  have hz := f_w_z (bd.2 s hs) (bd.1 s hs)
  exact lw_D2 (f := fun v : UInt32 => FP.f2d v) (v0 := f_w (s_sd s A.s).2.2.2.2.2.2 (s_sd s A.s).2.2.2.2.1) hJ (hl_averageWait (by decide) ho hg (hc.imp (fun r g1 h => ⟨_, h.1, hz.d.n64, by rw [h.2]; exact hV, rfl, h.2⟩))) (by decide) ⟨_, rfl, rfl, hz.d⟩ (fun g1 h1 => c_maverageWait0 hs sd.2.2.1 sd.2.2.2.2.1 (bd.1 s hs) (bd.2 s hs) h1)
theorem pn_ticksToRest {l : Launch} {E : bz_E} {L : List Nat} {o : Nat} {g : Nat → va_E} {A : WA} {I : Nat → Int32} {B : Nat → Nat → Int32} {U : Nat → Int64} {V : Nat → UInt64} (hl : l.stackTraces = false) (hJ : lw_J E L g o A I B U V) : lw_PN l E L o g mX8_ticksToRest mX9_ticksToRest [.ref o] [.ref (o + 407)] := by
  obtain ⟨hX, hM, hU, hV, ht⟩ := id hJ
  obtain ⟨ho, fs, hg⟩ := lw_m8 hX
  obtain ⟨R, hW, hk⟩ := id hX
  obtain ⟨hn6, hb6, hpq, hT, hD, hS, hnw, hlen, hrg, hs0, hs1⟩ := id hk
  have W3 := w_pick3 hW 0 3 5 rfl rfl rfl (by decide) (by decide) (by decide)
  obtain ⟨td, tp, ts, ti, tu, tl, th, tn, tb, te, tv⟩ := id ht
  have ht9 := ti.2.2
  obtain ⟨N, hN⟩ : ∃ N : Nat, N = 560 := ⟨_, rfl⟩
  refine lw_KN hJ (d2 := 7) (by decide) ((c8_ticksToRest hN td ti.1.1 ti.1.2.1 (by omega) hX).imp (fun r g1 h => ?_))
  obtain ⟨τ, hlk, hv, R1, hB1, hk1, -⟩ := h
  refine ⟨_, hv _ rfl, A, w_to hB1 hk1, 7, by decide, fun g2 h2 => (c_mticksToRest (pl := A.D) (σ := τ) (ls := s_last A.D τ N) (em := s_emp (s_run A.D N τ)) (by rw [hN]) (by rw [hN]) tp (m_st_like ts hlk) (hlk.inv ti.1.1) (by rw [hlk.tm]; omega) h2).imp (fun r g3 hr => ?_)⟩
  obtain ⟨h1, N1, W, F, v, mv, em1, h3, h4⟩ := hr
  exact ⟨h1, _, _, h3, rfl, ht.look (m_st_like h4 hlk.symm) (fun i hi => by unfold va_up; rw [if_neg (by omega), if_neg (by omega), if_neg (by omega), if_neg (by omega)]) ⟨rfl, rfl, rfl⟩⟩
theorem pn_isStuck {l : Launch} {E : bz_E} {L : List Nat} {o : Nat} {g : Nat → va_E} {A : WA} {I : Nat → Int32} {B : Nat → Nat → Int32} {U : Nat → Int64} {V : Nat → UInt64} (hl : l.stackTraces = false) (hJ : lw_J E L g o A I B U V) : lw_PN l E L o g mX8_isStuck mX9_isStuck [.ref o] [.ref (o + 407)] := by
  obtain ⟨hX, hM, hU, hV, ht⟩ := id hJ
  obtain ⟨ho, fs, hg⟩ := lw_m8 hX
  obtain ⟨R, hW, hk⟩ := id hX
  obtain ⟨hn6, hb6, hpq, hT, hD, hS, hnw, hlen, hrg, hs0, hs1⟩ := id hk
  have W3 := w_pick3 hW 0 3 5 rfl rfl rfl (by decide) (by decide) (by decide)
  obtain ⟨td, tp, ts, ti, tu, tl, th, tn, tb, te, tv⟩ := id ht
  have ht9 := ti.2.2
  obtain ⟨N, hN⟩ : ∃ N : Nat, N = 560 := ⟨_, rfl⟩
  refine lw_KN hJ (d2 := 8) (by decide) ((c8_isStuck hN td ti.1.1 ti.1.2.1 (by omega) hX).imp (fun r g1 h => ?_))
  obtain ⟨τ, hlk, hv, hP1⟩ := h
  refine ⟨_, hv _ _ rfl rfl, A, hP1, 7, by decide, fun g2 h2 => (c_misStuck (pl := A.D) (σ := τ) (ls := s_last A.D τ N) (em := s_emp (s_run A.D N τ)) (by rw [hN]) (by rw [hN]) tp (m_st_like ts hlk) (hlk.inv ti.1.1) (by rw [hlk.tm]; omega) h2).imp (fun r g3 hr => ?_)⟩
  obtain ⟨h1, N1, W, F, v, mv, em1, h3, h4⟩ := hr
  exact ⟨h1, _, _, h3, rfl, ht.look (m_st_like h4 hlk.symm) (fun i hi => by unfold va_up; rw [if_neg (by omega), if_neg (by omega), if_neg (by omega), if_neg (by omega)]) ⟨rfl, rfl, rfl⟩⟩
theorem pr_completeTick {l : Launch} {E : bz_E} {L : List Nat} {o : Nat} {g : Nat → va_E} {A : WA} {I : Nat → Int32} {B : Nat → Nat → Int32} {U : Nat → Int64} {V : Nat → UInt64} (hl : l.stackTraces = false) (hJ : lw_J E L g o A I B U V) (v1 v2 : Int32) : lw_PH l E L o g mL_completeTick tL_completeTick mX9_completeTick [.ref o, .int v1, .int v2, .ref (o + 423)] [.ref (o + 407), .int v1, .int v2] (fun v => v.toInt64) := by
  obtain ⟨hX, hM, hU, hV, ht⟩ := id hJ
  obtain ⟨ho, fs, hg⟩ := lw_m8 hX
  obtain ⟨R, hW, hk⟩ := id hX
  obtain ⟨hn6, hb6, hpq, hT, hD, hS, hnw, hlen, hrg, hs0, hs1⟩ := id hk
  have W3 := w_pick3 hW 0 3 5 rfl rfl rfl (by decide) (by decide) (by decide)
  obtain ⟨td, tp, ts, ti, tu, tl, th, tn, tb, te, tv⟩ := id ht
  by_cases hb : m_bad v1 2 = true
  · exact lw_KX hJ (k := 1) (by decide) (by decide) (hx_completeTick_IOE (by decide) ho hg (c8_completeTick2 hl hb hX)) (lw_R.same ht (by decide) ⟨_, rfl⟩ (fun g1 h1 => c_mcompleteTick2 hb h1))
  obtain ⟨s, hs, rfl⟩ := m_badE (v := v1) (m := 2) (by decide) (by simpa using hb)
  have hd8 := td.2.2.2.1.2
  by_cases hb2 : m_bad v2 A.D.2.2.2.2.2.1 = true
  · exact lw_KX hJ (k := 1) (by decide) (by decide) (hx_completeTick_IOE (by decide) ho hg (c8_completeTick1 hl hs td hb2 hX)) (lw_R.same ht (by decide) ⟨_, rfl⟩ (fun g1 h1 => c_mcompleteTick1 hs tp.2.2.2.2.2.1 hb2 h1))
  obtain ⟨k, hk2, rfl⟩ := m_badE (v := v2) (m := A.D.2.2.2.2.2.1) (by omega) (by simpa using hb2)
  have ht9 := ti.2.2
  obtain ⟨N, hN⟩ : ∃ N : Nat, N = 500 := ⟨_, rfl⟩
  refine lw_K2 (cv := (fun v => v.toInt64)) (hl_completeTick (by decide) ho hg (lw_K1 (F := lw_RF l E L o mX9_completeTick [.ref (o + 407), .int (nI s), .int (nI k)] I B) hJ ((c8_completeTick0 hN hs td ti.1.1 ti.1.2.2 (by omega) hk2 hX).imp (fun r g1 h => ?_))))
  obtain ⟨τ, hlk, hv, hP1⟩ := h
  refine ⟨_, hv _ rfl, A, hP1, 6, by decide, fun g2 h2 => (c_mcompleteTick0 (pl := A.D) (σ := τ) (cn := s_cn (s_st A.D τ s k) N 0) hs tp.2.2.2.2.2.1 hk2 (by omega) hd8 (by rw [hN]) (hlk.t2 ti.1.2.2) tp (m_st_like ts hlk) (hlk.inv ti.1.1) (by rw [hlk.tm]; omega) h2).imp (fun r g3 hr => ?_)⟩
  obtain ⟨h1, N1, W, F, v, mv, h3, h4⟩ := hr
  exact ⟨h1, _, _, h3, rfl, ht.look (m_st_like h4 hlk.symm) (fun i hi => by unfold va_up; rw [if_neg (by omega), if_neg (by omega), if_neg (by omega), if_neg (by omega)]) ⟨rfl, rfl, rfl⟩⟩
