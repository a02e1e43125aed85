/-! THE LAW: the pairs of calls: append, parse, undo, snapshots -/
theorem m_un_nil {U : Nat → Int32} : m_un U [] := fun i x hx => by simp at hx
theorem lw_nil {D : Pl} : ∀ x ∈ ([] : List Si), lw_si D x := fun x hx => by cases hx
theorem m_un_pre {U : Nat → Int32} {hs : List Si} {τ : Si} (h : m_un U (hs ++ [τ])) : m_un U hs := fun i x hx => h i x (by
  rw [List.getElem?_append_left (List.getElem?_eq_some_iff.mp hx).1]; exact hx)
theorem m_pl_fA {B B9 : Nat → Nat → Int32} {D : Pl} (h : m_pl B D) (q : q_fA B B9) : m_pl B9 D := by
  obtain ⟨q1, q2, q3, q4, q5, q6⟩ := q
  obtain ⟨a1, a2, a3, a4, a5, a6, a7, a8, a9⟩ := h
  refine ⟨fun k hk => ?_, fun k hk => ?_, fun k hk => ?_, ?_, a5, ?_, a7, ⟨?_, a8.2.1, fun j x hx => ?_, a8.2.2.2⟩, ⟨?_, a9.2.1, fun j x hx => ?_, a9.2.2.2⟩⟩
  · rw [(q2 k hk).1, (q2 k hk).2]; exact a1 k hk
  · rw [q3 k hk]; exact a2 k hk
  · rw [q4 k hk]; exact a3 k hk
  · rw [(q5 0 (by decide)).1]; exact a4
  · rw [(q5 1 (by decide)).1]; exact a6
  · rw [(q5 0 (by decide)).2]; exact a8.1
  · rw [q6 (620 * 0 + j) (by have := (List.getElem?_eq_some_iff.mp hx).1; have := a8.2.1; omega)]; exact a8.2.2.1 j x hx
  · rw [(q5 1 (by decide)).2]; exact a9.1
  · rw [q6 (620 * 1 + j) (by have := (List.getElem?_eq_some_iff.mp hx).1; have := a9.2.1; omega)]; exact a9.2.2.1 j x hx
theorem lw_si0 {D : Pl} {m0 m1 : Nat → Int32} : lw_si D (s_00 m0 m1) :=
  ⟨s_all_0 ⟨rfl, rfl, fun _ _ => ⟨rfl, rfl⟩⟩ ⟨rfl, rfl, fun _ _ => ⟨rfl, rfl⟩⟩, ⟨⟨Nat.le_refl _, Nat.zero_le _⟩, ⟨Nat.le_refl _, Nat.zero_le _⟩⟩, Nat.zero_le _⟩
/-- a fresh start over a plan -/
theorem lw_tie0 {D : Pl} {s : Si} {b : Nat → Nat} {I9 : Nat → Int32} {B9 : Nat → Nat → Int32} (hd : d_ok D) (hp : m_pl B9 D) (hw : w_ws D s) (hst : ∀ m0 m1 : Nat → Int32, (∀ i, i < 16 → m0 i = nI (D.2.2.2.1 i)) → (∀ i, i < 16 → m1 i = nI (D.2.2.2.1 (16 + i))) → m_st (B9 1) (s_00 m0 m1)) (h27 : I9 27 = nI 0) (h10 : I9 10 = nI 0) (h9 : ∀ i, i < 600 → B9 9 i = s8 (b i)) (h17 : I9 17 = -1) (h150 : B9 15 0 = nI 0) (h151 : B9 15 1 = nI 0) : lw_tie (b, 0, -1, D, s, [], none, none) I9 B9 := by
  obtain ⟨m0, m1, rfl, e0, e1⟩ := hw
  refine ⟨hd, hp, hst m0 m1 e0 e1, lw_si0, m_un_nil, h27, lw_nil, h10, h9, h17, fun s hs => ?_⟩
  rcases (show s = 0 ∨ s = 1 by omega) with rfl | rfl
  · exact ⟨h150, fun τ h => by cases h⟩
  · exact ⟨h151, fun τ h => by cases h⟩

theorem pn_undo {l : Launch} {E : bz_E} {L : List Nat} {o : Nat} {g : Nat → va_E} {A : WA} {I : Nat → Int32} {B : Nat → Nat → Int32} {U : Nat → Int64} {V : Nat → UInt64} (hl : l.stackTraces = false) (hJ : lw_J E L g o A I B U V) : lw_PN l E L o g mX8_undo mX9_undo [.ref o] [.ref (o + 407)] := by
  obtain ⟨hX, hM, hU, hV, ht⟩ := id hJ
  obtain ⟨ho, fs, hg⟩ := lw_m8 hX
  obtain ⟨R, hW, hk⟩ := id hX
  obtain ⟨hn6, hb6, hpq, hT, hD, hS, hnw, hlen, hrg, hs0, hs1⟩ := id hk
  have W3 := w_pick3 hW 0 3 5 rfl rfl rfl (by decide) (by decide) (by decide)
  obtain ⟨td, tp, ts, ti, tu, tl, th, tn, tb, te, tv⟩ := id ht
  rcases List.eq_nil_or_concat A.hs with h0 | ⟨hs, τ, h0⟩
  · exact lw_KN hJ (by decide) (lw_C.pure (c8_undo0 h0 hX) hX (lw_R.same ht (by decide) rfl (fun g1 h1 => c_mundo1 (by rw [tl, h0]; rfl) h1)))
  · rw [List.concat_eq_append] at h0
    have hln : A.hs.length = hs.length + 1 := by rw [h0, List.length_append]; rfl
    have hun : m_un (B 13) (hs ++ [τ]) := by rw [← h0]; exact tu
    have hts : lw_si A.D τ := th τ (by rw [h0]; exact List.mem_append_right _ List.mem_cons_self)
    refine lw_KN hJ (by decide) (lw_C.keep (c8_undo1 h0 hX) (fun τ1 hlk => ⟨1, by decide, fun g1 h1 => (c_mundo0 (σ := τ) (hs := hs) hun (by rw [tl, hln]) (by omega) h1).imp (fun r g2 hr => ?_)⟩))
    obtain ⟨h1, N, h2, h3⟩ := hr
    refine ⟨h1, _, _, h2, rfl, td, tp.congr (fun i a b => by unfold va_up; rw [if_neg (by omega)]), m_st_like h3 hlk, hts.like hlk, m_un_pre hun, rfl, fun x hx => th x (by rw [h0]; exact List.mem_append_left _ hx), tn, tb, te, tv⟩
theorem lw_save {A : WA} {I : Nat → Int32} {B : Nat → Nat → Int32} {s : Nat} {τ : Si} (hs : s < 2) (h : lw_tie A I B) (hlk : s_like A.s τ) : lw_tie (w_us A s τ) (va_up I 0 (nI 0)) (va_up (va_up B 14 (va_cpy (B 1) (B 14) 0 (2075 * s) 2075)) 15 (upd (B 15) s (nI 1))) := by
  obtain ⟨td, tp, ts, ti, tu, tl, th, tn, tb, te, tv⟩ := h
  have e1 : (va_up (va_up B 14 (va_cpy (B 1) (B 14) 0 (2075 * s) 2075)) 15 (upd (B 15) s (nI 1))) 15 = upd (B 15) s (nI 1) := rfl
  have e2 : (va_up (va_up B 14 (va_cpy (B 1) (B 14) 0 (2075 * s) 2075)) 15 (upd (B 15) s (nI 1))) 14 = va_cpy (B 1) (B 14) 0 (2075 * s) 2075 := rfl
  have key : ∀ t, t < 2 → (t = s ∨ t ≠ s) := fun t _ => by omega
  have hsame : m_st (fun j => va_cpy (B 1) (B 14) 0 (2075 * s) 2075 (2075 * s + j)) τ := m_st_fr (m_st_like ts hlk) (fun j hj => by
    show va_cpy (B 1) (B 14) 0 (2075 * s) 2075 (2075 * s + j) = B 1 j
    unfold va_cpy
    rw [if_pos ⟨by omega, by omega⟩]
    congr 1
    omega)
  have hoth : ∀ t σ, t < 2 → t ≠ s → m_st (fun j => B 14 (2075 * t + j)) σ → m_st (fun j => va_cpy (B 1) (B 14) 0 (2075 * s) 2075 (2075 * t + j)) σ := fun t σ h1 h2 h3 => m_st_fr h3 (fun j hj => by
    show va_cpy (B 1) (B 14) 0 (2075 * s) 2075 (2075 * t + j) = B 14 (2075 * t + j)
    unfold va_cpy
    rw [if_neg (by omega)])
  have hm : ∀ (i : Nat), i ≠ 14 → i ≠ 15 → (va_up (va_up B 14 (va_cpy (B 1) (B 14) 0 (2075 * s) 2075)) 15 (upd (B 15) s (nI 1))) i = B i := fun i h1 h2 => by unfold va_up; rw [if_neg h2, if_neg h1]
  have hD : (w_us A s τ).D = A.D := by unfold w_us; split <;> rfl
  have hS : (w_us A s τ).s = A.s := by unfold w_us; split <;> rfl
  have hH : (w_us A s τ).hs = A.hs := by unfold w_us; split <;> rfl
  have hN : (w_us A s τ).n = A.n := by unfold w_us; split <;> rfl
  have hB : (w_us A s τ).b = A.b := by unfold w_us; split <;> rfl
  have hE : (w_us A s τ).er = A.er := by unfold w_us; split <;> rfl
  unfold lw_tie
  rw [hD, hS, hH, hN, hB, hE, hm 1 (by decide) (by decide), hm 13 (by decide) (by decide), hm 9 (by decide) (by decide), e1, e2]
  refine ⟨td, tp.congr (fun i a b => hm i (by omega) (by omega)), ts, ti, tu, tl, th, tn, tb, te, fun t ht => ?_⟩
  rcases key t ht with rfl | hne
  · have w1 : w_sv (w_us A t τ) t = true := by unfold w_sv w_us; split <;> rfl
    have w2 : w_sn (w_us A t τ) t = some τ := by unfold w_sn w_us; split <;> rfl
    rw [w1, w2]
    refine ⟨by rw [upd_eq]; rfl, fun σ hσ => ?_⟩
    cases hσ
    exact ⟨hsame, ti.like hlk⟩
  · have w1 : w_sv (w_us A s τ) t = w_sv A t := by
      unfold w_sv w_us
      rcases (show (s = 0 ∧ t = 1) ∨ (s = 1 ∧ t = 0) by omega) with ⟨rfl, rfl⟩ | ⟨rfl, rfl⟩ <;> rfl
    have w2 : w_sn (w_us A s τ) t = w_sn A t := by
      unfold w_sn w_us
      rcases (show (s = 0 ∧ t = 1) ∨ (s = 1 ∧ t = 0) by omega) with ⟨rfl, rfl⟩ | ⟨rfl, rfl⟩ <;> rfl
    rw [w1, w2]
    refine ⟨by rw [upd_ne hne]; exact (tv t ht).1, fun σ hσ => ?_⟩
    obtain ⟨k1, k2⟩ := (tv t ht).2 σ hσ
    exact ⟨hoth t σ ht hne k1, k2⟩
theorem pr_saveSnapshot {l : Launch} {E : bz_E} {L : List Nat} {o : Nat} {g : Nat → va_E} {A : WA} {I : Nat → Int32} {B : Nat → Nat → Int32} {U : Nat → Int64} {V : Nat → UInt64} (hl : l.stackTraces = false) (hJ : lw_J E L g o A I B U V) (v1 : Int32) : lw_PH l E L o g mL_saveSnapshot tL_saveSnapshot mX9_saveSnapshot [.ref o, .int v1, .ref (o + 423)] [.ref (o + 407), .int v1] (fun v => if v = 0 then 0 else 1) := by
  obtain ⟨hX, hM, hU, hV, ht⟩ := id hJ
  obtain ⟨ho, fs, hg⟩ := lw_m8 hX
  obtain ⟨R, hW, hk⟩ := id hX
  obtain ⟨hn6, hb6, hpq, hT, hD, hS, hnw, hlen, hrg, hs0, hs1⟩ := id hk
  have W3 := w_pick3 hW 0 3 5 rfl rfl rfl (by decide) (by decide) (by decide)
  obtain ⟨td, tp, ts, ti, tu, tl, th, tn, tb, te, tv⟩ := id ht
  by_cases hb : m_bad v1 2 = true
  · exact lw_KX hJ (k := 1) (by decide) (by decide) (hx_saveSnapshot_IOE (by decide) ho hg (c8_save1 hl hb)) (lw_R.same ht (by decide) ⟨_, rfl⟩ (fun g1 h1 => c_msave1 hb h1))
  obtain ⟨s, hs, rfl⟩ := m_badE (v := v1) (m := 2) (by decide) (by simpa using hb)
  refine lw_K2 (cv := (fun v => if v = 0 then 0 else 1)) (hl_saveSnapshot (by decide) ho hg (lw_K1 (F := lw_RF l E L o mX9_saveSnapshot [.ref (o + 407), .int (nI s)] I B) hJ (lw_C.keep (c8_save0 hs hX) (fun τ hlk => ⟨3, by decide, fun g1 h1 => (c_msave0 (b := w_sv A s) hs (tv s hs).1 h1).imp (fun r g2 hr => ?_)⟩))))
  obtain ⟨h1, h2⟩ := hr
  exact ⟨h1, _, _, h2, rfl, lw_save hs ht hlk⟩
theorem pr_restoreSnapshot {l : Launch} {E : bz_E} {L : List Nat} {o : Nat} {g : Nat → va_E} {A : WA} {I : Nat → Int32} {B : Nat → Nat → Int32} {U : Nat → Int64} {V : Nat → UInt64} (hl : l.stackTraces = false) (hJ : lw_J E L g o A I B U V) (v1 : Int32) : lw_PH l E L o g mL_restoreSnapshot tL_restoreSnapshot mX9_restoreSnapshot [.ref o, .int v1, .ref (o + 423)] [.ref (o + 407), .int v1] (fun v => v.toInt64) := by
  obtain ⟨hX, hM, hU, hV, ht⟩ := id hJ
  obtain ⟨ho, fs, hg⟩ := lw_m8 hX
  obtain ⟨R, hW, hk⟩ := id hX
  obtain ⟨hn6, hb6, hpq, hT, hD, hS, hnw, hlen, hrg, hs0, hs1⟩ := id hk
  have W3 := w_pick3 hW 0 3 5 rfl rfl rfl (by decide) (by decide) (by decide)
  obtain ⟨td, tp, ts, ti, tu, tl, th, tn, tb, te, tv⟩ := id ht
  by_cases hb : m_bad v1 2 = true
  · exact lw_KX hJ (k := 1) (by decide) (by decide) (hx_restoreSnapshot_IOE (by decide) ho hg (c8_rest2 hl hb)) (lw_R.same ht (by decide) ⟨_, rfl⟩ (fun g1 h1 => c_mrest2 hb h1))
  obtain ⟨s, hs, rfl⟩ := m_badE (v := v1) (m := 2) (by decide) (by simpa using hb)
  cases h0 : w_sn A s with
  | none =>
    have hv : w_sv A s = false := by
      unfold w_sn at h0
      unfold w_sv
      split at h0
      · rename_i hc
        rw [if_pos hc, h0]; rfl
      · rename_i hc
        rw [if_neg hc, h0]; rfl
    exact lw_KX hJ (k := 2) (by decide) (by decide) (hx_restoreSnapshot_ISE (by decide) ho hg (c8_rest1 hl hs hv hX)) (lw_R.same ht (by decide) ⟨_, rfl⟩ (fun g1 h1 => c_mrest1 hs ((tv s hs).1.trans (congrArg tB hv)) h1))
  | some τ =>
    have hv : w_sv A s = true := by
      unfold w_sn at h0
      unfold w_sv
      split at h0
      · rename_i hc
        rw [if_pos hc, h0]; rfl
      · rename_i hc
        rw [if_neg hc, h0]; rfl
    obtain ⟨k1, k2⟩ := (tv s hs).2 τ h0
    refine lw_K2 (cv := (fun v => v.toInt64)) (hl_restoreSnapshot (by decide) ho hg (lw_K1 (F := lw_RF l E L o mX9_restoreSnapshot [.ref (o + 407), .int (nI s)] I B) hJ (lw_C.keep (c8_rest0 hs h0 hX) (fun τ1 hlk => ⟨3, by decide, fun g1 h1 => (c_mrest0 (σ := τ) hs ((tv s hs).1.trans (congrArg tB hv)) k1 h1).imp (fun r g2 hr => ?_)⟩))))
    obtain ⟨h1, N, h2, h3⟩ := hr
    exact ⟨h1, _, _, h2, rfl, td, tp.congr (fun i a b => by unfold va_up; rw [if_neg (by omega)]), m_st_like h3 hlk, k2.like hlk, m_un_nil, rfl, lw_nil, tn, tb, te, tv⟩
theorem pn_append {l : Launch} {E : bz_E} {L : List Nat} {o : Nat} {g : Nat → va_E} {A : WA} {I : Nat → Int32} {B : Nat → Nat → Int32} {U : Nat → Int64} {V : Nat → UInt64} (hl : l.stackTraces = false) (hJ : lw_J E L g o A I B U V) (v1 v2 v3 v4 v5 : Int32) : lw_PN l E L o g mX8_append mX9_append [.ref o, .int v1, .int v2, .int v3, .int v4, .int v5] [.ref (o + 407), .int v1, .int v2, .int v3, .int v4, .int v5] := by
  obtain ⟨hX, hM, hU, hV, ht⟩ := id hJ
  obtain ⟨ho, fs, hg⟩ := lw_m8 hX
  obtain ⟨R, hW, hk⟩ := id hX
  obtain ⟨hn6, hb6, hpq, hT, hD, hS, hnw, hlen, hrg, hs0, hs1⟩ := id hk
  have W3 := w_pick3 hW 0 3 5 rfl rfl rfl (by decide) (by decide) (by decide)
  obtain ⟨td, tp, ts, ti, tu, tl, th, tn, tb, te, tv⟩ := id ht
  by_cases hn4 : A.n + 20 ≤ 600
  · refine lw_KN hJ (d2 := 2) (by decide) ((c8_append0 (a := v1) (b := v2) (c := v3) (d := v4) (e := v5) hn4 hX).imp (fun r g1 h => ?_))
    refine ⟨_, h.1, _, h.2, 1, by decide, fun g2 h2 => (c_mappend0 (B := A.b) tn hn4 tb h2).imp (fun r g3 hr => ?_)⟩
    obtain ⟨h1, I9, A9, k1, k2, k3, k4, k5⟩ := hr
    refine ⟨h1, I9, A9, k1, k3 0 (by decide), td, tp.congr (fun i a b => k4 i (by omega)), ?_, ti, ?_, (k3 27 (by decide)).trans tl, th, k2, k5, (k3 17 (by decide)).trans te, ?_⟩
    · rw [k4 1 (by decide)]; exact ts
    · rw [k4 13 (by decide)]; exact tu
    · rw [k4 14 (by decide), k4 15 (by decide)]; exact tv
  · exact lw_KN hJ (by decide) (lw_C.pure (c8_append1 (by omega) hX) hX (lw_R.same ht (by decide) rfl (fun g1 h1 => c_mappend1 tn hn6 (by omega) h1)))
theorem pr_parse {l : Launch} {E : bz_E} {L : List Nat} {o : Nat} {g : Nat → va_E} {A : WA} {I : Nat → Int32} {B : Nat → Nat → Int32} {U : Nat → Int64} {V : Nat → UInt64} (hl : l.stackTraces = false) (hJ : lw_J E L g o A I B U V) (v1 : Int32) : lw_PH l E L o g mL_parse tL_parse mX9_parse [.ref o, .int v1, .ref (o + 423)] [.ref (o + 407), .int v1] (fun v => v.toInt64) := by
  obtain ⟨hX, hM, hU, hV, ht⟩ := id hJ
  obtain ⟨ho, fs, hg⟩ := lw_m8 hX
  obtain ⟨R, hW, hk⟩ := id hX
  obtain ⟨hn6, hb6, hpq, hT, hD, hS, hnw, hlen, hrg, hs0, hs1⟩ := id hk
  have W3 := w_pick3 hW 0 3 5 rfl rfl rfl (by decide) (by decide) (by decide)
  obtain ⟨td, tp, ts, ti, tu, tl, th, tn, tb, te, tv⟩ := id ht
  by_cases hb : (if v1 < nI 0 then (0 : Int32) else if nI A.n < v1 then 0 else 1) = nI 0
  · exact lw_KX hJ (k := 1) (by decide) (by decide) (hx_parse_IAE (by decide) ho hg (c8_parse2 hl hb hX)) (lw_R.same ht (by decide) ⟨_, rfl⟩ (fun g1 h1 => c_mparse2 tn hb h1))
  obtain ⟨n, -, hnn, rfl⟩ := lw_rng (by decide) (by omega) hb
  refine lw_K2 (cv := (fun v => v.toInt64)) (hl_parse (by decide) ho hg (lw_K1 (F := lw_RF l E L o mX9_parse [.ref (o + 407), .int (nI n)] I B) hJ ((c8_parse hnn hX).imp (fun r g1 h => ?_))))
  have hm := fun g2 h2 => c_mparse (l := l) (L := L) (g := g2) (E := E) (o := o + 407) (I := I) (A := B) (b := A.b) hb6 hnn hn6 tn tb h2
  rcases h with ⟨D1, k1, k2, t1, hp, hr, hd1, s, hws, hP⟩ | ⟨e, hp, hr, hP⟩
  · refine ⟨_, hr, _, hP, 24, by decide, fun g2 h2 => (hm g2 h2).imp (fun r3 g3 hq => ?_)⟩
    rcases hq with ⟨D2, k3, k4, t2, hp2, h3, I9, A9, q1, q2, q3, q4, q5, q6, q7, q8, q9, q10⟩ | ⟨e, hp2, -⟩
    · rw [hp] at hp2
      cases hp2
      exact ⟨h3, I9, A9, q1, q2, lw_tie0 hd1 q6 hws q7 q5 q3 (by rw [q8]; exact tb) q4 q9 q10⟩
    · rw [hp] at hp2
      cases hp2
  · refine ⟨_, hr, _, hP, 24, by decide, fun g2 h2 => (hm g2 h2).imp (fun r3 g3 hq => ?_)⟩
    rcases hq with ⟨D2, k3, k4, t2, hp2, -⟩ | ⟨e2, hp2, h3, I9, A9, q1, q2, q3, q4, q5, q6⟩
    · rw [hp] at hp2
      cases hp2
    · rw [hp] at hp2
      cases hp2
      refine ⟨h3, I9, A9, q1, q2, td, m_pl_fA tp q6, ?_, ti, ?_, (q5 27 (by decide)).trans tl, th, q3, ?_, q4, ?_⟩
      · rw [q6.1 1 (by decide)]; exact ts
      · rw [q6.1 13 (by decide)]; exact tu
      · rw [q6.1 9 (by decide)]; exact tb
      · rw [q6.1 14 (by decide), q6.1 15 (by decide)]; exact tv
