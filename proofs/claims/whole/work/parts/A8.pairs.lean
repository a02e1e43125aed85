/-! THE LAW: the pairs of calls, those that only tell -/
theorem pr_waiting {l : Launch} {E : bz_E} {L : List Nat} {o : Nat} {g : Nat → va_E} {A : WA} {I : Nat → Int32} {B : Nat → Nat → Int32} {U : Nat → Int64} {V : Nat → UInt64} (hl : l.stackTraces = false) (hJ : lw_J E L g o A I B U V) (v1 : Int32) : lw_PH l E L o g mL_waiting tL_waiting mX9_waiting [.ref o, .int v1, .ref (o + 423)] [.ref (o + 407), .int v1] (fun v => v.toInt64) := by
  obtain ⟨hX, hM, hU, hV, ht⟩ := id hJ
  obtain ⟨ho, fs, hg⟩ := lw_m8 hX
  obtain ⟨R, hW, hk⟩ := id hX
  obtain ⟨hn6, hb6, hpq, hT, hD, hS, hnw, hlen, hrg, hs0, hs1⟩ := id hk
  have W3 := w_pick3 hW 0 3 5 rfl rfl rfl (by decide) (by decide) (by decide)
  obtain ⟨td, tp, ts, ti, tu, tl, th, tn, tb, te, tv⟩ := id ht
  by_cases hb : m_bad v1 2 = true
  · exact lw_KX hJ (k := 1) (by decide) (by decide) (hx_waiting_IOE (by decide) ho hg (c8_waiting1 hl hb)) (lw_R.same ht (by decide) ⟨_, rfl⟩ (fun g1 h1 => c_mwaiting1 hb h1))
  obtain ⟨s, hs, rfl⟩ := m_badE (v := v1) (m := 2) (by decide) (by simpa using hb)
  have sd := m_st_sd hs ts
  exact lw_K2 (cv := (fun v => v.toInt64)) (hl_waiting (by decide) ho hg (lw_K1 hJ (lw_C.pure (c8_waiting0 hs hS hD W3) hX (lw_R.same ht (by decide) (congrArg (fun z => some (Value.int z)) (sd.1)) (fun g1 h1 => c_mwaiting0 hs h1)))))
theorem pr_forwarded {l : Launch} {E : bz_E} {L : List Nat} {o : Nat} {g : Nat → va_E} {A : WA} {I : Nat → Int32} {B : Nat → Nat → Int32} {U : Nat → Int64} {V : Nat → UInt64} (hl : l.stackTraces = false) (hJ : lw_J E L g o A I B U V) (v1 : Int32) : lw_PH l E L o g mL_forwarded tL_forwarded mX9_forwarded [.ref o, .int v1, .ref (o + 423)] [.ref (o + 407), .int v1] (fun v => v.toInt64) := by
  obtain ⟨hX, hM, hU, hV, ht⟩ := id hJ
  obtain ⟨ho, fs, hg⟩ := lw_m8 hX
  obtain ⟨R, hW, hk⟩ := id hX
  obtain ⟨hn6, hb6, hpq, hT, hD, hS, hnw, hlen, hrg, hs0, hs1⟩ := id hk
  have W3 := w_pick3 hW 0 3 5 rfl rfl rfl (by decide) (by decide) (by decide)
  obtain ⟨td, tp, ts, ti, tu, tl, th, tn, tb, te, tv⟩ := id ht
  by_cases hb : m_bad v1 2 = true
  · exact lw_KX hJ (k := 1) (by decide) (by decide) (hx_forwarded_IOE (by decide) ho hg (c8_forwarded1 hl hb)) (lw_R.same ht (by decide) ⟨_, rfl⟩ (fun g1 h1 => c_mforwarded1 hb h1))
  obtain ⟨s, hs, rfl⟩ := m_badE (v := v1) (m := 2) (by decide) (by simpa using hb)
  have sd := m_st_sd hs ts
  exact lw_K2 (cv := (fun v => v.toInt64)) (hl_forwarded (by decide) ho hg (lw_K1 hJ (lw_C.pure (c8_forwarded0 hs hS hD W3) hX (lw_R.same ht (by decide) (congrArg (fun z => some (Value.int z)) (sd.2.2.1)) (fun g1 h1 => c_mforwarded0 hs h1)))))
theorem pr_passings {l : Launch} {E : bz_E} {L : List Nat} {o : Nat} {g : Nat → va_E} {A : WA} {I : Nat → Int32} {B : Nat → Nat → Int32} {U : Nat → Int64} {V : Nat → UInt64} (hl : l.stackTraces = false) (hJ : lw_J E L g o A I B U V) (v1 : Int32) : lw_PH l E L o g mL_passings tL_passings mX9_passings [.ref o, .int v1, .ref (o + 423)] [.ref (o + 407), .int v1] (fun v => v.toInt64) := by
  obtain ⟨hX, hM, hU, hV, ht⟩ := id hJ
  obtain ⟨ho, fs, hg⟩ := lw_m8 hX
  obtain ⟨R, hW, hk⟩ := id hX
  obtain ⟨hn6, hb6, hpq, hT, hD, hS, hnw, hlen, hrg, hs0, hs1⟩ := id hk
  have W3 := w_pick3 hW 0 3 5 rfl rfl rfl (by decide) (by decide) (by decide)
  obtain ⟨td, tp, ts, ti, tu, tl, th, tn, tb, te, tv⟩ := id ht
  by_cases hb : m_bad v1 2 = true
  · exact lw_KX hJ (k := 1) (by decide) (by decide) (hx_passings_IOE (by decide) ho hg (c8_passings1 hl hb)) (lw_R.same ht (by decide) ⟨_, rfl⟩ (fun g1 h1 => c_mpassings1 hb h1))
  obtain ⟨s, hs, rfl⟩ := m_badE (v := v1) (m := 2) (by decide) (by simpa using hb)
  have sd := m_st_sd hs ts
  exact lw_K2 (cv := (fun v => v.toInt64)) (hl_passings (by decide) ho hg (lw_K1 hJ (lw_C.pure (c8_passings0 hs hS hD W3) hX (lw_R.same ht (by decide) (congrArg (fun z => some (Value.int z)) (sd.2.2.2.1)) (fun g1 h1 => c_mpassings0 hs h1)))))
theorem lw_cr {B : Nat → Nat → Int32} {D : Pl} {s : Nat} (h : m_pl B D) (hs : s < 2) : ∀ k, k < 4 → B 3 (4 * (1 - s) + k) = nI (w_cr s D k) ∧ w_cr s D k ≤ 8 := by
  intro k hk
  unfold w_cr
  rcases (show s = 0 ∨ s = 1 by omega) with rfl | rfl
  · have := (h.1 (4 + k) (by omega)).2.2.2
    exact this
  · have := (h.1 (0 + k) (by omega)).2.2.2
    exact this
theorem pr_next {l : Launch} {E : bz_E} {L : List Nat} {o : Nat} {g : Nat → va_E} {A : WA} {I : Nat → Int32} {B : Nat → Nat → Int32} {U : Nat → Int64} {V : Nat → UInt64} (hl : l.stackTraces = false) (hJ : lw_J E L g o A I B U V) (v1 : Int32) : lw_PH l E L o g mL_next tL_next mX9_next [.ref o, .int v1, .ref (o + 423)] [.ref (o + 407), .int v1] (fun v => v.toInt64) := by
  obtain ⟨hX, hM, hU, hV, ht⟩ := id hJ
  obtain ⟨ho, fs, hg⟩ := lw_m8 hX
  obtain ⟨R, hW, hk⟩ := id hX
  obtain ⟨hn6, hb6, hpq, hT, hD, hS, hnw, hlen, hrg, hs0, hs1⟩ := id hk
  have W3 := w_pick3 hW 0 3 5 rfl rfl rfl (by decide) (by decide) (by decide)
  obtain ⟨td, tp, ts, ti, tu, tl, th, tn, tb, te, tv⟩ := id ht
  by_cases hb : m_bad v1 2 = true
  · exact lw_KX hJ (k := 1) (by decide) (by decide) (hx_next_IOE (by decide) ho hg (c8_next1 hl hb)) (lw_R.same ht (by decide) ⟨_, rfl⟩ (fun g1 h1 => c_mnext1 hb h1))
  obtain ⟨s, hs, rfl⟩ := m_badE (v := v1) (m := 2) (by decide) (by simpa using hb)
  have sd := m_st_sd hs ts
  exact lw_K2 (cv := (fun v => v.toInt64)) (hl_next (by decide) ho hg (lw_K1 hJ (lw_C.pure (c8_next0 hs td hS hD W3) hX (lw_R.same ht (by decide) (rfl) (fun g1 h1 => c_mnext0 hs sd (m_st_sd (by omega) ts) (lw_cr tp hs) tp.2.1 h1)))))
theorem pr_kindAt {l : Launch} {E : bz_E} {L : List Nat} {o : Nat} {g : Nat → va_E} {A : WA} {I : Nat → Int32} {B : Nat → Nat → Int32} {U : Nat → Int64} {V : Nat → UInt64} (hl : l.stackTraces = false) (hJ : lw_J E L g o A I B U V) (v1 v2 : Int32) : lw_PH l E L o g mL_kindAt tL_kindAt mX9_kindAt [.ref o, .int v1, .int v2, .ref (o + 423)] [.ref (o + 407), .int v1, .int v2] (fun v => v.toInt64) := by
  obtain ⟨hX, hM, hU, hV, ht⟩ := id hJ
  obtain ⟨ho, fs, hg⟩ := lw_m8 hX
  obtain ⟨R, hW, hk⟩ := id hX
  obtain ⟨hn6, hb6, hpq, hT, hD, hS, hnw, hlen, hrg, hs0, hs1⟩ := id hk
  have W3 := w_pick3 hW 0 3 5 rfl rfl rfl (by decide) (by decide) (by decide)
  obtain ⟨td, tp, ts, ti, tu, tl, th, tn, tb, te, tv⟩ := id ht
  by_cases hb : m_bad v1 2 = true
  · exact lw_KX hJ (k := 1) (by decide) (by decide) (hx_kindAt_IOE (by decide) ho hg (c8_kindAt2 hl hb hS hD W3)) (lw_R.same ht (by decide) ⟨_, rfl⟩ (fun g1 h1 => c_mkindAt2 hb h1))
  obtain ⟨s, hs, rfl⟩ := m_badE (v := v1) (m := 2) (by decide) (by simpa using hb)
  have sd := m_st_sd hs ts
  have hlen2 := sd.2.2.2.2.2.2.2.2.2.1.len
  by_cases hb2 : m_bad v2 (s_sd s A.s).1.length = true
  · exact lw_KX hJ (k := 1) (by decide) (by decide) (hx_kindAt_IOE (by decide) ho hg (c8_kindAt1 hl hs hb2 hS hD W3)) (lw_R.same ht (by decide) ⟨_, rfl⟩ (fun g1 h1 => c_mkindAt1 hs sd.1 hb2 h1))
  obtain ⟨k, hk2, rfl⟩ := m_badE (v := v2) (m := (s_sd s A.s).1.length) (by omega) (by simpa using hb2)
  obtain ⟨x, hx⟩ : ∃ x, (s_sd s A.s).1[k]? = some x := ⟨_, List.getElem?_eq_getElem hk2⟩
  exact lw_K2 (cv := (fun v => v.toInt64)) (hl_kindAt (by decide) ho hg (lw_K1 hJ (lw_C.pure (c8_kindAt0 hs hx hS hD W3) hX (lw_R.same ht (by decide) (congrArg (fun z => some (Value.int z)) ((sd.2.2.2.2.2.2.2.1 k x hx).1.1)) (fun g1 h1 => c_mkindAt0 hs sd.1 hk2 (by omega) hlen2 h1)))))
theorem pr_tagAt {l : Launch} {E : bz_E} {L : List Nat} {o : Nat} {g : Nat → va_E} {A : WA} {I : Nat → Int32} {B : Nat → Nat → Int32} {U : Nat → Int64} {V : Nat → UInt64} (hl : l.stackTraces = false) (hJ : lw_J E L g o A I B U V) (v1 v2 : Int32) : lw_PH l E L o g mL_tagAt tL_tagAt mX9_tagAt [.ref o, .int v1, .int v2, .ref (o + 423)] [.ref (o + 407), .int v1, .int v2] (fun v => v.toInt64) := by
  obtain ⟨hX, hM, hU, hV, ht⟩ := id hJ
  obtain ⟨ho, fs, hg⟩ := lw_m8 hX
  obtain ⟨R, hW, hk⟩ := id hX
  obtain ⟨hn6, hb6, hpq, hT, hD, hS, hnw, hlen, hrg, hs0, hs1⟩ := id hk
  have W3 := w_pick3 hW 0 3 5 rfl rfl rfl (by decide) (by decide) (by decide)
  obtain ⟨td, tp, ts, ti, tu, tl, th, tn, tb, te, tv⟩ := id ht
  by_cases hb : m_bad v1 2 = true
  · exact lw_KX hJ (k := 1) (by decide) (by decide) (hx_tagAt_IOE (by decide) ho hg (c8_tagAt2 hl hb hS hD W3)) (lw_R.same ht (by decide) ⟨_, rfl⟩ (fun g1 h1 => c_mtagAt2 hb h1))
  obtain ⟨s, hs, rfl⟩ := m_badE (v := v1) (m := 2) (by decide) (by simpa using hb)
  have sd := m_st_sd hs ts
  have hlen2 := sd.2.2.2.2.2.2.2.2.2.1.len
  by_cases hb2 : m_bad v2 (s_sd s A.s).1.length = true
  · exact lw_KX hJ (k := 1) (by decide) (by decide) (hx_tagAt_IOE (by decide) ho hg (c8_tagAt1 hl hs hb2 hS hD W3)) (lw_R.same ht (by decide) ⟨_, rfl⟩ (fun g1 h1 => c_mtagAt1 hs sd.1 hb2 h1))
  obtain ⟨k, hk2, rfl⟩ := m_badE (v := v2) (m := (s_sd s A.s).1.length) (by omega) (by simpa using hb2)
  obtain ⟨x, hx⟩ : ∃ x, (s_sd s A.s).1[k]? = some x := ⟨_, List.getElem?_eq_getElem hk2⟩
  exact lw_K2 (cv := (fun v => v.toInt64)) (hl_tagAt (by decide) ho hg (lw_K1 hJ (lw_C.pure (c8_tagAt0 hs hx hS hD W3) hX (lw_R.same ht (by decide) (congrArg (fun z => some (Value.int z)) ((sd.2.2.2.2.2.2.2.1 k x hx).1.2.1)) (fun g1 h1 => c_mtagAt0 hs sd.1 hk2 (by omega) hlen2 h1)))))
theorem pr_blockers {l : Launch} {E : bz_E} {L : List Nat} {o : Nat} {g : Nat → va_E} {A : WA} {I : Nat → Int32} {B : Nat → Nat → Int32} {U : Nat → Int64} {V : Nat → UInt64} (hl : l.stackTraces = false) (hJ : lw_J E L g o A I B U V) (v1 v2 : Int32) : lw_PH l E L o g mL_blockers tL_blockers mX9_blockers [.ref o, .int v1, .int v2, .ref (o + 423)] [.ref (o + 407), .int v1, .int v2] (fun v => v.toInt64) := by
  obtain ⟨hX, hM, hU, hV, ht⟩ := id hJ
  obtain ⟨ho, fs, hg⟩ := lw_m8 hX
  obtain ⟨R, hW, hk⟩ := id hX
  obtain ⟨hn6, hb6, hpq, hT, hD, hS, hnw, hlen, hrg, hs0, hs1⟩ := id hk
  have W3 := w_pick3 hW 0 3 5 rfl rfl rfl (by decide) (by decide) (by decide)
  obtain ⟨td, tp, ts, ti, tu, tl, th, tn, tb, te, tv⟩ := id ht
  by_cases hb : m_bad v1 2 = true
  · exact lw_KX hJ (k := 1) (by decide) (by decide) (hx_blockers_IOE (by decide) ho hg (c8_blockers2 hl hb hS hD W3)) (lw_R.same ht (by decide) ⟨_, rfl⟩ (fun g1 h1 => c_mblockers2 hb h1))
  obtain ⟨s, hs, rfl⟩ := m_badE (v := v1) (m := 2) (by decide) (by simpa using hb)
  have sd := m_st_sd hs ts
  have hlen2 := sd.2.2.2.2.2.2.2.2.2.1.len
  by_cases hb2 : m_bad v2 (s_sd s A.s).1.length = true
  · exact lw_KX hJ (k := 1) (by decide) (by decide) (hx_blockers_IOE (by decide) ho hg (c8_blockers1 hl hs hb2 hS hD W3)) (lw_R.same ht (by decide) ⟨_, rfl⟩ (fun g1 h1 => c_mblockers1 hs sd.1 hb2 h1))
  obtain ⟨k, hk2, rfl⟩ := m_badE (v := v2) (m := (s_sd s A.s).1.length) (by omega) (by simpa using hb2)
  obtain ⟨x, hx⟩ : ∃ x, (s_sd s A.s).1[k]? = some x := ⟨_, List.getElem?_eq_getElem hk2⟩
  exact lw_K2 (cv := (fun v => v.toInt64)) (hl_blockers (by decide) ho hg (lw_K1 hJ (lw_C.pure (c8_blockers0 hs td hx hS hD W3) hX (lw_R.same ht (by decide) (rfl) (fun g1 h1 => c_mblockers0 hs sd.1 hk2 (by omega) sd hx tp.2.1 h1)))))
theorem pr_tagState {l : Launch} {E : bz_E} {L : List Nat} {o : Nat} {g : Nat → va_E} {A : WA} {I : Nat → Int32} {B : Nat → Nat → Int32} {U : Nat → Int64} {V : Nat → UInt64} (hl : l.stackTraces = false) (hJ : lw_J E L g o A I B U V) (v1 v2 : Int32) : lw_PH l E L o g mL_tagState tL_tagState mX9_tagState [.ref o, .int v1, .int v2, .ref (o + 423)] [.ref (o + 407), .int v1, .int v2] (fun v => v.toInt64) := by
  obtain ⟨hX, hM, hU, hV, ht⟩ := id hJ
  obtain ⟨ho, fs, hg⟩ := lw_m8 hX
  obtain ⟨R, hW, hk⟩ := id hX
  obtain ⟨hn6, hb6, hpq, hT, hD, hS, hnw, hlen, hrg, hs0, hs1⟩ := id hk
  have W3 := w_pick3 hW 0 3 5 rfl rfl rfl (by decide) (by decide) (by decide)
  obtain ⟨td, tp, ts, ti, tu, tl, th, tn, tb, te, tv⟩ := id ht
  by_cases hb : m_bad v1 2 = true
  · exact lw_KX hJ (k := 1) (by decide) (by decide) (hx_tagState_IOE (by decide) ho hg (c8_tagState2 hl hb hS hD W3)) (lw_R.same ht (by decide) ⟨_, rfl⟩ (fun g1 h1 => c_mtagState2 hb h1))
  obtain ⟨s, hs, rfl⟩ := m_badE (v := v1) (m := 2) (by decide) (by simpa using hb)
  have sd := m_st_sd hs ts
  have hd8 := td.2.2.2.1.2
  by_cases hb2 : m_bad v2 A.D.2.2.2.2.2.1 = true
  · exact lw_KX hJ (k := 1) (by decide) (by decide) (hx_tagState_IOE (by decide) ho hg (c8_tagState1 hl hs td.2.2.2.1.2 hb2 hS hD W3)) (lw_R.same ht (by decide) ⟨_, rfl⟩ (fun g1 h1 => c_mtagState1 hs tp.2.2.2.2.2.1 hb2 h1))
  obtain ⟨k, hk2, rfl⟩ := m_badE (v := v2) (m := A.D.2.2.2.2.2.1) (by omega) (by simpa using hb2)
  have tg := sd.2.2.2.2.2.2.1 k (by omega)
  exact lw_K2 (cv := (fun v => v.toInt64)) (hl_tagState (by decide) ho hg (lw_K1 hJ (lw_C.pure (c8_tagState0 hs td.2.2.2.1.2 hk2 hS hD W3) hX (lw_R.same ht (by decide) (congrArg (fun z => some (Value.int z)) (tg.1)) (fun g1 h1 => c_mtagState0 hs tp.2.2.2.2.2.1 hk2 (by omega) hd8 h1)))))
theorem pr_stored {l : Launch} {E : bz_E} {L : List Nat} {o : Nat} {g : Nat → va_E} {A : WA} {I : Nat → Int32} {B : Nat → Nat → Int32} {U : Nat → Int64} {V : Nat → UInt64} (hl : l.stackTraces = false) (hJ : lw_J E L g o A I B U V) (v1 v2 : Int32) : lw_PH l E L o g mL_stored tL_stored mX9_stored [.ref o, .int v1, .int v2, .ref (o + 423)] [.ref (o + 407), .int v1, .int v2] (fun v => v.toInt64) := by
  obtain ⟨hX, hM, hU, hV, ht⟩ := id hJ
  obtain ⟨ho, fs, hg⟩ := lw_m8 hX
  obtain ⟨R, hW, hk⟩ := id hX
  obtain ⟨hn6, hb6, hpq, hT, hD, hS, hnw, hlen, hrg, hs0, hs1⟩ := id hk
  have W3 := w_pick3 hW 0 3 5 rfl rfl rfl (by decide) (by decide) (by decide)
  obtain ⟨td, tp, ts, ti, tu, tl, th, tn, tb, te, tv⟩ := id ht
  by_cases hb : m_bad v1 2 = true
  · exact lw_KX hJ (k := 1) (by decide) (by decide) (hx_stored_IOE (by decide) ho hg (c8_stored2 hl hb hS hD W3)) (lw_R.same ht (by decide) ⟨_, rfl⟩ (fun g1 h1 => c_mstored2 hb h1))
  obtain ⟨s, hs, rfl⟩ := m_badE (v := v1) (m := 2) (by decide) (by simpa using hb)
  have sd := m_st_sd hs ts
  have hd8 := td.2.2.2.1.2
  by_cases hb2 : m_bad v2 A.D.2.2.2.2.2.1 = true
  · exact lw_KX hJ (k := 1) (by decide) (by decide) (hx_stored_IOE (by decide) ho hg (c8_stored1 hl hs td.2.2.2.1.2 hb2 hS hD W3)) (lw_R.same ht (by decide) ⟨_, rfl⟩ (fun g1 h1 => c_mstored1 hs tp.2.2.2.2.2.1 hb2 h1))
  obtain ⟨k, hk2, rfl⟩ := m_badE (v := v2) (m := A.D.2.2.2.2.2.1) (by omega) (by simpa using hb2)
  have tg := sd.2.2.2.2.2.2.1 k (by omega)
  exact lw_K2 (cv := (fun v => v.toInt64)) (hl_stored (by decide) ho hg (lw_K1 hJ (lw_C.pure (c8_stored0 hs td.2.2.2.1.2 hk2 hS hD W3) hX (lw_R.same ht (by decide) (rfl) (fun g1 h1 => c_mstored0 hs tp.2.2.2.2.2.1 hk2 (by omega) hd8 tg.2.2.1 tg.2.2.2.1 h1)))))
theorem pr_data {l : Launch} {E : bz_E} {L : List Nat} {o : Nat} {g : Nat → va_E} {A : WA} {I : Nat → Int32} {B : Nat → Nat → Int32} {U : Nat → Int64} {V : Nat → UInt64} (hl : l.stackTraces = false) (hJ : lw_J E L g o A I B U V) (v1 v2 v3 : Int32) : lw_PH l E L o g mL_data tL_data mX9_data [.ref o, .int v1, .int v2, .int v3, .ref (o + 423)] [.ref (o + 407), .int v1, .int v2, .int v3] (fun v => v.toInt64) := by
  obtain ⟨hX, hM, hU, hV, ht⟩ := id hJ
  obtain ⟨ho, fs, hg⟩ := lw_m8 hX
  obtain ⟨R, hW, hk⟩ := id hX
  obtain ⟨hn6, hb6, hpq, hT, hD, hS, hnw, hlen, hrg, hs0, hs1⟩ := id hk
  have W3 := w_pick3 hW 0 3 5 rfl rfl rfl (by decide) (by decide) (by decide)
  obtain ⟨td, tp, ts, ti, tu, tl, th, tn, tb, te, tv⟩ := id ht
  by_cases hb : m_bad v1 2 = true
  · exact lw_KX hJ (k := 1) (by decide) (by decide) (hx_data_IOE (by decide) ho hg (c8_data2 hl hb hS hD W3)) (lw_R.same ht (by decide) ⟨_, rfl⟩ (fun g1 h1 => c_mdata3 hb h1))
  obtain ⟨s, hs, rfl⟩ := m_badE (v := v1) (m := 2) (by decide) (by simpa using hb)
  have sd := m_st_sd hs ts
  have hd8 := td.2.2.2.1.2
  by_cases hb2 : m_bad v2 A.D.2.2.2.2.2.1 = true
  · exact lw_KX hJ (k := 1) (by decide) (by decide) (hx_data_IOE (by decide) ho hg (c8_data1 hl hs td.2.2.2.1.2 hb2 hS hD W3)) (lw_R.same ht (by decide) ⟨_, rfl⟩ (fun g1 h1 => c_mdata2 hs tp.2.2.2.2.2.1 hb2 h1))
  obtain ⟨k, hk2, rfl⟩ := m_badE (v := v2) (m := A.D.2.2.2.2.2.1) (by omega) (by simpa using hb2)
  have tg := sd.2.2.2.2.2.2.1 k (by omega)
  by_cases hb3 : m_bad v3 4 = true
  · exact lw_KX hJ (k := 2) (by decide) (by decide) (hx_data_ISE (by decide) ho hg (c8_data3 hl hs td.2.2.2.1.2 hk2 hb3 hS hD W3)) (lw_R.same ht (by decide) ⟨_, rfl⟩ (fun g1 h1 => c_mdata1 hs tp.2.2.2.2.2.1 hk2 (by omega) hd8 hb3 h1))
  obtain ⟨i, hi, rfl⟩ := m_badE (v := v3) (m := 4) (by decide) (by simpa using hb3)
  by_cases hbit : ((s_sd s A.s).2.2.1.2.2.1 k).testBit i = true
  · exact lw_K2 (cv := (fun v => v.toInt64)) (hl_data (by decide) ho hg (lw_K1 hJ (lw_C.pure (c8_data0 hs td.2.2.2.1.2 hk2 hi hbit hS hD W3) hX (lw_R.same ht (by decide) (congrArg (fun z => some (Value.int z)) (tg.2.2.2.2.2 i hi)) (fun g1 h1 => c_mdata0 hs tp.2.2.2.2.2.1 hk2 (by omega) hd8 tg.2.2.1 tg.2.2.2.1 hi hbit h1)))))
  have hbit : ((s_sd s A.s).2.2.1.2.2.1 k).testBit i = false := by simpa using hbit
  exact lw_KX hJ (k := 2) (by decide) (by decide) (hx_data_ISE (by decide) ho hg (c8_data4 hl hs td.2.2.2.1.2 hk2 hi hbit hS hD W3)) (lw_R.same ht (by decide) ⟨_, rfl⟩ (fun g1 h1 => c_mdata4 hs tp.2.2.2.2.2.1 hk2 (by omega) hd8 tg.2.2.1 tg.2.2.2.1 hi hbit h1))
theorem pr_held {l : Launch} {E : bz_E} {L : List Nat} {o : Nat} {g : Nat → va_E} {A : WA} {I : Nat → Int32} {B : Nat → Nat → Int32} {U : Nat → Int64} {V : Nat → UInt64} (hl : l.stackTraces = false) (hJ : lw_J E L g o A I B U V) (v1 v2 : Int32) : lw_PH l E L o g mL_held tL_held mX9_held [.ref o, .int v1, .int v2, .ref (o + 423)] [.ref (o + 407), .int v1, .int v2] (fun v => v.toInt64) := by
  obtain ⟨hX, hM, hU, hV, ht⟩ := id hJ
  obtain ⟨ho, fs, hg⟩ := lw_m8 hX
  obtain ⟨R, hW, hk⟩ := id hX
  obtain ⟨hn6, hb6, hpq, hT, hD, hS, hnw, hlen, hrg, hs0, hs1⟩ := id hk
  have W3 := w_pick3 hW 0 3 5 rfl rfl rfl (by decide) (by decide) (by decide)
  obtain ⟨td, tp, ts, ti, tu, tl, th, tn, tb, te, tv⟩ := id ht
  by_cases hb : m_bad v1 2 = true
  · exact lw_KX hJ (k := 1) (by decide) (by decide) (hx_held_IOE (by decide) ho hg (c8_held2 hl hb)) (lw_R.same ht (by decide) ⟨_, rfl⟩ (fun g1 h1 => c_mheld2 hb h1))
  obtain ⟨s, hs, rfl⟩ := m_badE (v := v1) (m := 2) (by decide) (by simpa using hb)
  have sd := m_st_sd hs ts
  by_cases hb2 : m_bad v2 4 = true
  · exact lw_KX hJ (k := 1) (by decide) (by decide) (hx_held_IOE (by decide) ho hg (c8_held1 hl hs hb2)) (lw_R.same ht (by decide) ⟨_, rfl⟩ (fun g1 h1 => c_mheld1 hs hb2 h1))
  obtain ⟨k, hk2, rfl⟩ := m_badE (v := v2) (m := 4) (by decide) (by simpa using hb2)
  exact lw_K2 (cv := (fun v => v.toInt64)) (hl_held (by decide) ho hg (lw_K1 hJ (lw_C.pure (c8_held0 hs hk2 hS hD W3) hX (lw_R.same ht (by decide) (rfl) (fun g1 h1 => c_mheld0 hs hk2 sd h1)))))
theorem pr_word {l : Launch} {E : bz_E} {L : List Nat} {o : Nat} {g : Nat → va_E} {A : WA} {I : Nat → Int32} {B : Nat → Nat → Int32} {U : Nat → Int64} {V : Nat → UInt64} (hl : l.stackTraces = false) (hJ : lw_J E L g o A I B U V) (v1 v2 : Int32) : lw_PH l E L o g mL_word tL_word mX9_word [.ref o, .int v1, .int v2, .ref (o + 423)] [.ref (o + 407), .int v1, .int v2] (fun v => v.toInt64) := by
  obtain ⟨hX, hM, hU, hV, ht⟩ := id hJ
  obtain ⟨ho, fs, hg⟩ := lw_m8 hX
  obtain ⟨R, hW, hk⟩ := id hX
  obtain ⟨hn6, hb6, hpq, hT, hD, hS, hnw, hlen, hrg, hs0, hs1⟩ := id hk
  have W3 := w_pick3 hW 0 3 5 rfl rfl rfl (by decide) (by decide) (by decide)
  obtain ⟨td, tp, ts, ti, tu, tl, th, tn, tb, te, tv⟩ := id ht
  by_cases hb : m_bad v1 2 = true
  · exact lw_KX hJ (k := 1) (by decide) (by decide) (hx_word_IOE (by decide) ho hg (c8_word2 hl hb)) (lw_R.same ht (by decide) ⟨_, rfl⟩ (fun g1 h1 => c_mword2 hb h1))
  obtain ⟨s, hs, rfl⟩ := m_badE (v := v1) (m := 2) (by decide) (by simpa using hb)
  have sd := m_st_sd hs ts
  by_cases hb2 : m_bad v2 16 = true
  · exact lw_KX hJ (k := 1) (by decide) (by decide) (hx_word_IOE (by decide) ho hg (c8_word1 hl hs hb2)) (lw_R.same ht (by decide) ⟨_, rfl⟩ (fun g1 h1 => c_mword1 hs hb2 h1))
  obtain ⟨k, hk2, rfl⟩ := m_badE (v := v2) (m := 16) (by decide) (by simpa using hb2)
  exact lw_K2 (cv := (fun v => v.toInt64)) (hl_word (by decide) ho hg (lw_K1 hJ (lw_C.pure (c8_word0 hs hk2 hS hD W3) hX (lw_R.same ht (by decide) (congrArg (fun z => some (Value.int z)) (sd.2.2.2.2.2.1 k hk2)) (fun g1 h1 => c_mword0 hs hk2 h1)))))
theorem pr_holds {l : Launch} {E : bz_E} {L : List Nat} {o : Nat} {g : Nat → va_E} {A : WA} {I : Nat → Int32} {B : Nat → Nat → Int32} {U : Nat → Int64} {V : Nat → UInt64} (hl : l.stackTraces = false) (hJ : lw_J E L g o A I B U V) (v1 v2 : Int32) : lw_PH l E L o g mL_holds tL_holds mX9_holds [.ref o, .int v1, .int v2, .ref (o + 423)] [.ref (o + 407), .int v1, .int v2] (fun v => if v = 0 then 0 else 1) := by
  obtain ⟨hX, hM, hU, hV, ht⟩ := id hJ
  obtain ⟨ho, fs, hg⟩ := lw_m8 hX
  obtain ⟨R, hW, hk⟩ := id hX
  obtain ⟨hn6, hb6, hpq, hT, hD, hS, hnw, hlen, hrg, hs0, hs1⟩ := id hk
  have W3 := w_pick3 hW 0 3 5 rfl rfl rfl (by decide) (by decide) (by decide)
  obtain ⟨td, tp, ts, ti, tu, tl, th, tn, tb, te, tv⟩ := id ht
  by_cases hb : m_bad v1 4 = true
  · exact lw_KX hJ (k := 1) (by decide) (by decide) (hx_holds_IOE (by decide) ho hg (c8_holds2 hl hb)) (lw_R.same ht (by decide) ⟨_, rfl⟩ (fun g1 h1 => c_mholds2 hb h1))
  obtain ⟨a, ha, rfl⟩ := m_badE (v := v1) (m := 4) (by decide) (by simpa using hb)
  by_cases hb2 : m_bad v2 4 = true
  · exact lw_KX hJ (k := 1) (by decide) (by decide) (hx_holds_IOE (by decide) ho hg (c8_holds1 hl ha hb2)) (lw_R.same ht (by decide) ⟨_, rfl⟩ (fun g1 h1 => c_mholds1 ha hb2 h1))
  obtain ⟨k, hk2, rfl⟩ := m_badE (v := v2) (m := 4) (by decide) (by simpa using hb2)
  exact lw_K2 (cv := (fun v => if v = 0 then 0 else 1)) (hl_holds (by decide) ho hg (lw_K1 hJ (lw_C.pure (c8_holds0 ha hk2) hX (lw_R.same ht (by decide) (rfl) (fun g1 h1 => c_mholds0 ha hk2 h1)))))
theorem pr_mayPass {l : Launch} {E : bz_E} {L : List Nat} {o : Nat} {g : Nat → va_E} {A : WA} {I : Nat → Int32} {B : Nat → Nat → Int32} {U : Nat → Int64} {V : Nat → UInt64} (hl : l.stackTraces = false) (hJ : lw_J E L g o A I B U V) (v1 v2 : Int32) (rx : Bool) : lw_PH l E L o g mL_mayPass tL_mayPass mX9_mayPass [.ref o, .int v1, .int v2, .int (tB rx), .ref (o + 423)] [.ref (o + 407), .int v1, .int v2, .int (tB rx)] (fun v => if v = 0 then 0 else 1) := by
  obtain ⟨hX, hM, hU, hV, ht⟩ := id hJ
  obtain ⟨ho, fs, hg⟩ := lw_m8 hX
  obtain ⟨R, hW, hk⟩ := id hX
  obtain ⟨hn6, hb6, hpq, hT, hD, hS, hnw, hlen, hrg, hs0, hs1⟩ := id hk
  have W3 := w_pick3 hW 0 3 5 rfl rfl rfl (by decide) (by decide) (by decide)
  obtain ⟨td, tp, ts, ti, tu, tl, th, tn, tb, te, tv⟩ := id ht
  by_cases hb : m_bad v1 4 = true
  · exact lw_KX hJ (k := 1) (by decide) (by decide) (hx_mayPass_IOE (by decide) ho hg (c8_mayPass2 hl hb)) (lw_R.same ht (by decide) ⟨_, rfl⟩ (fun g1 h1 => c_mmayPass2 hb h1))
  obtain ⟨a, ha, rfl⟩ := m_badE (v := v1) (m := 4) (by decide) (by simpa using hb)
  by_cases hb2 : m_bad v2 4 = true
  · exact lw_KX hJ (k := 1) (by decide) (by decide) (hx_mayPass_IOE (by decide) ho hg (c8_mayPass1 hl ha hb2)) (lw_R.same ht (by decide) ⟨_, rfl⟩ (fun g1 h1 => c_mmayPass1 ha hb2 h1))
  obtain ⟨k, hk2, rfl⟩ := m_badE (v := v2) (m := 4) (by decide) (by simpa using hb2)
  exact lw_K2 (cv := (fun v => if v = 0 then 0 else 1)) (hl_mayPass (by decide) ho hg (lw_K1 hJ (lw_C.pure (c8_mayPass0 td ha hk2 hS hD W3) hX (lw_R.same ht (by decide) (rfl) (fun g1 h1 => c_mmayPass0 ha hk2 tp.2.1 h1)))))
theorem pn_errorPosition {l : Launch} {E : bz_E} {L : List Nat} {o : Nat} {g : Nat → va_E} {A : WA} {I : Nat → Int32} {B : Nat → Nat → Int32} {U : Nat → Int64} {V : Nat → UInt64} (hl : l.stackTraces = false) (hJ : lw_J E L g o A I B U V) : lw_PN l E L o g mX8_errorPosition mX9_errorPosition [.ref o] [.ref (o + 407)] := by
  obtain ⟨hX, hM, hU, hV, ht⟩ := id hJ
  obtain ⟨ho, fs, hg⟩ := lw_m8 hX
  obtain ⟨R, hW, hk⟩ := id hX
  obtain ⟨hn6, hb6, hpq, hT, hD, hS, hnw, hlen, hrg, hs0, hs1⟩ := id hk
  have W3 := w_pick3 hW 0 3 5 rfl rfl rfl (by decide) (by decide) (by decide)
  obtain ⟨td, tp, ts, ti, tu, tl, th, tn, tb, te, tv⟩ := id ht
  exact lw_KN hJ (by decide) (lw_C.pure (c8_errorPosition hS hD W3) hX (lw_R.same ht (by decide) (congrArg (fun z => some (Value.int z)) (te)) (fun g1 h1 => c_merrorPosition h1)))
theorem pn_tick {l : Launch} {E : bz_E} {L : List Nat} {o : Nat} {g : Nat → va_E} {A : WA} {I : Nat → Int32} {B : Nat → Nat → Int32} {U : Nat → Int64} {V : Nat → UInt64} (hl : l.stackTraces = false) (hJ : lw_J E L g o A I B U V) : lw_PN l E L o g mX8_tick mX9_tick [.ref o] [.ref (o + 407)] := by
  obtain ⟨hX, hM, hU, hV, ht⟩ := id hJ
  obtain ⟨ho, fs, hg⟩ := lw_m8 hX
  obtain ⟨R, hW, hk⟩ := id hX
  obtain ⟨hn6, hb6, hpq, hT, hD, hS, hnw, hlen, hrg, hs0, hs1⟩ := id hk
  have W3 := w_pick3 hW 0 3 5 rfl rfl rfl (by decide) (by decide) (by decide)
  obtain ⟨td, tp, ts, ti, tu, tl, th, tn, tb, te, tv⟩ := id ht
  exact lw_KN hJ (by decide) (lw_C.pure (c8_tick hS hD W3) hX (lw_R.same ht (by decide) (congrArg (fun z => some (Value.int z)) (ts.1)) (fun g1 h1 => c_mtick h1)))
theorem pn_isSafe {l : Launch} {E : bz_E} {L : List Nat} {o : Nat} {g : Nat → va_E} {A : WA} {I : Nat → Int32} {B : Nat → Nat → Int32} {U : Nat → Int64} {V : Nat → UInt64} (hl : l.stackTraces = false) (hJ : lw_J E L g o A I B U V) : lw_PN l E L o g mX8_isSafe mX9_isSafe [.ref o] [.ref (o + 407)] := by
  obtain ⟨hX, hM, hU, hV, ht⟩ := id hJ
  obtain ⟨ho, fs, hg⟩ := lw_m8 hX
  obtain ⟨R, hW, hk⟩ := id hX
  obtain ⟨hn6, hb6, hpq, hT, hD, hS, hnw, hlen, hrg, hs0, hs1⟩ := id hk
  have W3 := w_pick3 hW 0 3 5 rfl rfl rfl (by decide) (by decide) (by decide)
  obtain ⟨td, tp, ts, ti, tu, tl, th, tn, tb, te, tv⟩ := id ht
  exact lw_KN hJ (by decide) (lw_C.pure (c8_isSafe td hS hD W3) hX (lw_R.same ht (by decide) (rfl) (fun g1 h1 => c_misSafe tp.2.1 (fun i hi => (tp.1 i hi).2.2.2) h1)))
theorem pn_ratioBits {l : Launch} {E : bz_E} {L : List Nat} {o : Nat} {g : Nat → va_E} {A : WA} {I : Nat → Int32} {B : Nat → Nat → Int32} {U : Nat → Int64} {V : Nat → UInt64} (hl : l.stackTraces = false) (hJ : lw_J E L g o A I B U V) : lw_PN l E L o g mX8_ratioBits mX9_ratioBits [.ref o] [.ref (o + 407)] := by
  obtain ⟨hX, hM, hU, hV, ht⟩ := id hJ
  obtain ⟨ho, fs, hg⟩ := lw_m8 hX
  obtain ⟨R, hW, hk⟩ := id hX
  obtain ⟨hn6, hb6, hpq, hT, hD, hS, hnw, hlen, hrg, hs0, hs1⟩ := id hk
  have W3 := w_pick3 hW 0 3 5 rfl rfl rfl (by decide) (by decide) (by decide)
  obtain ⟨td, tp, ts, ti, tu, tl, th, tn, tb, te, tv⟩ := id ht
  have bd := ti.2.1.bd ti.2.2
  exact lw_KN hJ (by decide) (lw_C.pure (c8_ratioBits bd.1 bd.2 hS hD W3) hX (lw_R.same ht (by decide) (rfl) (fun g1 h1 => c_mratioBits (m_st_sd (s := 0) (by decide) ts).2.2.1 (m_st_sd (s := 0) (by decide) ts).2.2.2.2.1 (bd.1 0 (by decide)) (bd.2 0 (by decide)) (m_st_sd (s := 1) (by decide) ts).2.2.1 (m_st_sd (s := 1) (by decide) ts).2.2.2.2.1 (bd.1 1 (by decide)) (bd.2 1 (by decide)) h1)))
