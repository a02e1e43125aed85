/-! THE LAW: the pairs of calls that change something -/
theorem s_fl_0 {f : Nat → Nat} : ∀ (m i t : Nat), s_fl f m i = some t → f t = 0
  | 0, _, _, h => by cases h
  | m + 1, i, t, h => by
    have h : (if f i = 0 then some i else s_fl f m (i + 1)) = some t := h
    by_cases hz : f i = 0
    · rw [if_pos hz] at h
      cases h
      exact hz
    · rw [if_neg hz] at h
      exact s_fl_0 m (i + 1) t h
theorem s_pt1 {s : Nat} {σ : Si} {P : Po} : (s_pt s σ P).1 = σ.1 := by
  unfold s_pt
  split <;> rfl
theorem lw_si.post {D : Pl} {σ : Si} {s : Nat} {x : Tx} (hs : s < 2) (h : lw_si D σ) (hk : tK x = 0) (hx : s_eok x) (hm : tM x = σ.1) (hc : s_cnt (tK x) (s_sd s σ).1 < D.1 (4 * s + tK x)) : lw_si D (s_pt s σ ((s_sd s σ).1 ++ [x], (s_sd s σ).2)) :=
  ⟨h.1.post hs hk hx hm hc, h.2.1.pt rfl, by rw [s_pt1]; exact h.2.2⟩
theorem lw_si.ask {D : Pl} {σ : Si} {s t w : Nat} {x : Tx} (hs : s < 2) (h : lw_si D σ) (ht : t < 8) (hf : (s_sd s σ).2.2.1.1 t = 0) (hx : s_eok x) (hk : (tK x = 1 ∧ s_w x ≤ w ∧ w ≠ 0) ∨ (tK x = 2 ∧ w = 0)) (hxt : tT x = t) (hm : tM x = σ.1) (hc : s_cnt (tK x) (s_sd s σ).1 < D.1 (4 * s + tK x)) : lw_si D (s_pt s σ ((s_sd s σ).1 ++ [x], (s_sd s σ).2.1, s_bgn (s_sd s σ).2.2.1 t w, (s_sd s σ).2.2.2)) :=
  ⟨h.1.ask hs ht hf hx hk hxt hm hc, h.2.1.pt rfl, by rw [s_pt1]; exact h.2.2⟩
theorem lw_si.rls {D : Pl} {σ : Si} {s t : Nat} (hs : s < 2) (h : lw_si D σ) (ht : t < 8) (hf : (s_sd s σ).2.2.1.1 t = 2) : lw_si D (s_pt s σ ((s_sd s σ).1, (s_sd s σ).2.1, s_rls (s_sd s σ).2.2.1 t, (s_sd s σ).2.2.2)) :=
  ⟨h.1.rls hs ht hf, h.2.1.pt rfl, by rw [s_pt1]; exact h.2.2⟩
theorem lw_eok {k t ad wd now : Nat} {rx : Bool} {vs : List Int32} (ht : t < 8) (hk : k < 3) (hw : 1 ≤ wd ∧ wd ≤ 4) : s_eok (s_ent k t rx ad wd now vs) :=
  ⟨ht, fun h => absurd (show k = 3 from h) (by omega), fun _ => ⟨by show 0 < wd; omega, hw.2⟩, by show k < 4; omega⟩

theorem pr_run {l : Launch} {E : bz_E} {L : List Nat} {o : Nat} {g : Nat → va_E} {A : WA} {I : Nat → Int32} {B : Nat → Nat → Int32} {U : Nat → Int64} {V : Nat → UInt64} (hl : l.stackTraces = false) (hJ : lw_J E L g o A I B U V) (v1 : Int32) : lw_PH l E L o g mL_run tL_run mX9_run [.ref o, .int v1, .ref (o + 423)] [.ref (o + 407), .int v1] (fun v => v.toInt64) := by
  obtain ⟨hX, hM, hU, hV, ht⟩ := id hJ
  obtain ⟨ho, fs, hg⟩ := lw_m8 hX
  obtain ⟨R, hW, hk⟩ := id hX
  obtain ⟨hn6, hb6, hpq, hT, hD, hS, hnw, hlen, hrg, hs0, hs1⟩ := id hk
  have W3 := w_pick3 hW 0 3 5 rfl rfl rfl (by decide) (by decide) (by decide)
  obtain ⟨td, tp, ts, ti, tu, tl, th, tn, tb, te, tv⟩ := id ht
  have ht9 := ti.2.2
  by_cases hb : (if v1 < nI 1 then (0 : Int32) else if nI 300 < v1 then 0 else 1) = nI 0
  · exact lw_KX hJ (k := 1) (by decide) (by decide) (hx_run_IAE (by decide) ho hg (c8_run2 hl hb)) (lw_R.same ht (by decide) ⟨_, rfl⟩ (fun g1 h1 => c_mrun2 hb h1))
  obtain ⟨t, h1t, ht3, rfl⟩ := lw_rng (by decide) (by decide) hb
  by_cases hnow : A.s.1 + t ≤ 9999
  · refine lw_K2 (cv := (fun v => v.toInt64)) (hl_run (by decide) ho hg (lw_K1 (F := lw_RF l E L o mX9_run [.ref (o + 407), .int (nI t)] I B) hJ (lw_C.keep (c8_run0 td ti.1.1 ⟨h1t, ht3⟩ hnow hX) (fun τ hlk => ⟨6, by decide, fun g1 h1 => (c_mrun0 (pl := A.D) (σ := A.s) (hs := A.hs) ⟨h1t, ht3⟩ hnow tu tl hlen tp ts ti.1.1 h1).imp (fun r g2 hr => ?_)⟩))))
    obtain ⟨h1, N, U9, F, v, mv, h2, h3, h4⟩ := hr
    exact ⟨h1, _, _, h2, rfl, ht.kp hlk h3 h4 rfl (ti.run td.2.2.1.1 (by rw [s_run1]; exact hnow)) (fun i hi => by unfold va_up; rw [if_neg (by omega), if_neg (by omega), if_neg (by omega), if_neg (by omega)]) rfl rfl⟩
  exact lw_KX hJ (k := 2) (by decide) (by decide) (hx_run_ISE (by decide) ho hg (c8_run1 hl ⟨h1t, ht3⟩ (by omega) (by omega) hX)) (lw_R.same ht (by decide) ⟨_, rfl⟩ (fun g1 h1 => c_mrun1 ⟨h1t, ht3⟩ ts.1 (by omega) (by omega) h1))
theorem pr_post {l : Launch} {E : bz_E} {L : List Nat} {o : Nat} {g : Nat → va_E} {A : WA} {I : Nat → Int32} {B : Nat → Nat → Int32} {U : Nat → Int64} {V : Nat → UInt64} (hl : l.stackTraces = false) (hJ : lw_J E L g o A I B U V) (v1 v2 v3 v4 : Int32) (rx : Bool) : lw_PH l E L o g mL_post tL_post mX9_post [.ref o, .int v1, .int v2, .int v3, .int v4, .int (tB rx), .ref (o + 423)] [.ref (o + 407), .int v1, .int v2, .int v3, .int v4, .int (tB rx)] (fun v => v.toInt64) := by
  obtain ⟨hX, hM, hU, hV, ht⟩ := id hJ
  obtain ⟨ho, fs, hg⟩ := lw_m8 hX
  obtain ⟨R, hW, hk⟩ := id hX
  obtain ⟨hn6, hb6, hpq, hT, hD, hS, hnw, hlen, hrg, hs0, hs1⟩ := id hk
  have W3 := w_pick3 hW 0 3 5 rfl rfl rfl (by decide) (by decide) (by decide)
  obtain ⟨td, tp, ts, ti, tu, tl, th, tn, tb, te, tv⟩ := id ht
  by_cases hb : m_bad v1 2 = true
  · exact lw_KX hJ (k := 1) (by decide) (by decide) (hx_post_IOE (by decide) ho hg (c8_post3 hl hb)) (lw_R.same ht (by decide) ⟨_, rfl⟩ (fun g1 h1 => c_mpost3 hb h1))
  obtain ⟨s, hs, rfl⟩ := m_badE (v := v1) (m := 2) (by decide) (by simpa using hb)
  have sd := m_st_sd hs ts
  have tw := ti.1.two hs
  have ht9 := ti.2.2
  have hd8 := td.2.2.2.1.2
  by_cases hb2 : m_bad v2 16 = true ∨ (if v3 < nI 1 then (0 : Int32) else if nI 4 < v3 then 0 else 1) = nI 0 ∨ ∃ a b : Nat, v2 = nI a ∧ v3 = nI b ∧ a < 16 ∧ b ≤ 4 ∧ 16 < a + b
  · exact lw_KX hJ (k := 2) (by decide) (by decide) (hx_post_IAE (by decide) ho hg (c8_post2 hl hs hb2)) (lw_R.same ht (by decide) ⟨_, rfl⟩ (fun g1 h1 => c_mpost2 hs hb2 h1))
  obtain ⟨ad, had, rfl⟩ := m_badE (v := v2) (m := 16) (by decide) (by simpa using fun h => hb2 (Or.inl h))
  obtain ⟨wd, hw1, hw4, rfl⟩ := lw_rng (by decide) (by decide) (fun h => hb2 (Or.inr (Or.inl h)))
  have haw : ad + wd ≤ 16 := by
    rcases Nat.lt_or_ge 16 (ad + wd) with c | c
    · exact absurd (Or.inr (Or.inr ⟨ad, wd, rfl, rfl, had, hw4, c⟩)) hb2
    · exact c
  obtain ⟨z, hz⟩ : ∃ z, z = A.D.1 (4 * s + 0) := ⟨_, rfl⟩
  have hz1 : A.D.1 (s * 4 + 0) = z := by rw [Nat.mul_comm s 4]; exact hz.symm
  have hz2 := tp.1 (4 * s + 0) (by omega)
  have hz3 := tw.2.2.1 0 (by decide)
  rw [← hz] at hz2 hz3
  by_cases hlt : s_cnt 0 (s_sd s A.s).1 < z
  · refine lw_K2 (cv := (fun v => v.toInt64)) (hl_post (by decide) ho hg (lw_K1 (F := lw_RF l E L o mX9_post [.ref (o + 407), .int (nI s), .int (nI ad), .int (nI wd), .int v4, .int (tB rx)] I B) hJ (lw_C.keep (c8_post0 hs td (by omega) ⟨hw1, hw4⟩ haw (by rw [hz1]; exact hlt) hX) (fun τ hlk => ⟨3, by decide, fun g1 h1 => (c_mpost0 (σ := A.s) (hl := A.hs) hs ⟨hw1, hw4⟩ haw sd hz2.1 hz2.2.2.1 hz3 hlt ts.1 (by omega) tu tl hlen ts h1).imp (fun r g2 hr => ?_)⟩))))
    obtain ⟨h1, N, U9, h2, h3, h4, h5⟩ := hr
    exact ⟨h1, _, _, h2, rfl, ht.kp hlk (m_st_pt hs ts h4 h5) h3 rfl (ti.post hs rfl (lw_eok (by decide) (by decide) ⟨hw1, hw4⟩) rfl (by rw [hz] at hlt; exact hlt)) (fun i hi => by unfold va_up; rw [if_neg (by omega), if_neg (by omega)]) rfl rfl⟩
  exact lw_KX hJ (k := 3) (by decide) (by decide) (hx_post_ISE (by decide) ho hg (c8_post1 hl hs td ⟨hw1, hw4⟩ haw (by rw [hz1]; omega) hX)) (lw_R.same ht (by decide) ⟨_, rfl⟩ (fun g1 h1 => c_mpost1 hs ⟨hw1, hw4⟩ haw sd hz2.1 hz2.2.2.1 hz3 (by omega) h1))
theorem pr_read {l : Launch} {E : bz_E} {L : List Nat} {o : Nat} {g : Nat → va_E} {A : WA} {I : Nat → Int32} {B : Nat → Nat → Int32} {U : Nat → Int64} {V : Nat → UInt64} (hl : l.stackTraces = false) (hJ : lw_J E L g o A I B U V) (v1 v2 v3 : Int32) (rx : Bool) : lw_PH l E L o g mL_read tL_read mX9_read [.ref o, .int v1, .int v2, .int v3, .int (tB rx), .ref (o + 423)] [.ref (o + 407), .int v1, .int v2, .int v3, .int (tB rx)] (fun v => v.toInt64) := by
  obtain ⟨hX, hM, hU, hV, ht⟩ := id hJ
  obtain ⟨ho, fs, hg⟩ := lw_m8 hX
  obtain ⟨R, hW, hk⟩ := id hX
  obtain ⟨hn6, hb6, hpq, hT, hD, hS, hnw, hlen, hrg, hs0, hs1⟩ := id hk
  have W3 := w_pick3 hW 0 3 5 rfl rfl rfl (by decide) (by decide) (by decide)
  obtain ⟨td, tp, ts, ti, tu, tl, th, tn, tb, te, tv⟩ := id ht
  by_cases hb : m_bad v1 2 = true
  · exact lw_KX hJ (k := 1) (by decide) (by decide) (hx_read_IOE (by decide) ho hg (c8_read3 hl hb)) (lw_R.same ht (by decide) ⟨_, rfl⟩ (fun g1 h1 => c_mread3 hb h1))
  obtain ⟨s, hs, rfl⟩ := m_badE (v := v1) (m := 2) (by decide) (by simpa using hb)
  have sd := m_st_sd hs ts
  have tw := ti.1.two hs
  have ht9 := ti.2.2
  have hd8 := td.2.2.2.1.2
  by_cases hb2 : m_bad v2 16 = true ∨ (if v3 < nI 1 then (0 : Int32) else if nI 4 < v3 then 0 else 1) = nI 0 ∨ ∃ a b : Nat, v2 = nI a ∧ v3 = nI b ∧ a < 16 ∧ b ≤ 4 ∧ 16 < a + b
  · exact lw_KX hJ (k := 2) (by decide) (by decide) (hx_read_IAE (by decide) ho hg (c8_read2 hl hs hb2)) (lw_R.same ht (by decide) ⟨_, rfl⟩ (fun g1 h1 => c_mread2 hs hb2 h1))
  obtain ⟨ad, had, rfl⟩ := m_badE (v := v2) (m := 16) (by decide) (by simpa using fun h => hb2 (Or.inl h))
  obtain ⟨wd, hw1, hw4, rfl⟩ := lw_rng (by decide) (by decide) (fun h => hb2 (Or.inr (Or.inl h)))
  have haw : ad + wd ≤ 16 := by
    rcases Nat.lt_or_ge 16 (ad + wd) with c | c
    · exact absurd (Or.inr (Or.inr ⟨ad, wd, rfl, rfl, had, hw4, c⟩)) hb2
    · exact c
  obtain ⟨z, hz⟩ : ∃ z, z = A.D.1 (4 * s + 1) := ⟨_, rfl⟩
  have hz1 : A.D.1 (s * 4 + 1) = z := by rw [Nat.mul_comm s 4]; exact hz.symm
  have hz2 := tp.1 (4 * s + 1) (by omega)
  have hz3 := tw.2.2.1 1 (by decide)
  rw [← hz] at hz2 hz3
  by_cases hlt : z ≤ s_cnt 1 (s_sd s A.s).1
  · exact lw_KX hJ (k := 3) (by decide) (by decide) (hx_read_ISE (by decide) ho hg (c8_read1 hl hs td ⟨hw1, hw4⟩ haw (by rw [hz1]; exact hlt) hX)) (lw_R.same ht (by decide) ⟨_, rfl⟩ (fun g1 h1 => c_mread1 hs sd tp.2.2.2.2.2.1 hd8 tw.2.2.2 hz2.1 hz2.2.2.1 hz3 ⟨hw1, hw4⟩ haw (Or.inl hlt) h1))
  have hlt : s_cnt 1 (s_sd s A.s).1 < z := by omega
  cases hf : s_fl (s_sd s A.s).2.2.1.1 A.D.2.2.2.2.2.1 0 with
  | none =>
    exact lw_KX hJ (k := 3) (by decide) (by decide) (hx_read_ISE (by decide) ho hg (c8_read4 hl hs td ⟨hw1, hw4⟩ haw (by rw [hz1]; exact hlt) tw.2.2.2 hf hX)) (lw_R.same ht (by decide) ⟨_, rfl⟩ (fun g1 h1 => c_mread1 hs sd tp.2.2.2.2.2.1 hd8 tw.2.2.2 hz2.1 hz2.2.2.1 hz3 ⟨hw1, hw4⟩ haw (Or.inr hf) h1))
  | some t =>
    have ht8 : t < 8 := by have := s_fl_lt _ _ _ hf; omega
    refine lw_K2 (cv := (fun v => v.toInt64)) (hl_read (by decide) ho hg (lw_K1 (F := lw_RF l E L o mX9_read [.ref (o + 407), .int (nI s), .int (nI ad), .int (nI wd), .int (tB rx)] I B) hJ (lw_C.keep (c8_read0 hs td (by omega) ⟨hw1, hw4⟩ haw (by rw [hz1]; exact hlt) tw.2.2.2 hf hX) (fun τ hlk => ⟨3, by decide, fun g1 h1 => (c_mread0 (σ := A.s) (hl := A.hs) hs sd tp.2.2.2.2.2.1 hd8 tw.2.2.2 hz2.1 hz2.2.2.1 hz3 ⟨hw1, hw4⟩ haw hlt hf ht8 ts.1 (by omega) tu tl hlen ts h1).imp (fun r g2 hr => ?_)⟩))))
    obtain ⟨h1, N, U9, h2, h3, h4, h5⟩ := hr
    exact ⟨h1, _, _, h2, rfl, ht.kp hlk (m_st_pt hs ts h4 h5) h3 rfl (ti.ask hs ht8 (s_fl_0 _ _ _ hf) (lw_eok ht8 (by decide) ⟨hw1, hw4⟩) (Or.inl ⟨rfl, by show wd - 0 ≤ wd; omega, by omega⟩) rfl rfl (by rw [hz] at hlt; exact hlt)) (fun i hi => by unfold va_up; rw [if_neg (by omega), if_neg (by omega)]) rfl rfl⟩
theorem pr_configure {l : Launch} {E : bz_E} {L : List Nat} {o : Nat} {g : Nat → va_E} {A : WA} {I : Nat → Int32} {B : Nat → Nat → Int32} {U : Nat → Int64} {V : Nat → UInt64} (hl : l.stackTraces = false) (hJ : lw_J E L g o A I B U V) (v1 v2 v3 : Int32) (rx : Bool) : lw_PH l E L o g mL_configure tL_configure mX9_configure [.ref o, .int v1, .int v2, .int v3, .int (tB rx), .ref (o + 423)] [.ref (o + 407), .int v1, .int v2, .int v3, .int (tB rx)] (fun v => v.toInt64) := by
  obtain ⟨hX, hM, hU, hV, ht⟩ := id hJ
  obtain ⟨ho, fs, hg⟩ := lw_m8 hX
  obtain ⟨R, hW, hk⟩ := id hX
  obtain ⟨hn6, hb6, hpq, hT, hD, hS, hnw, hlen, hrg, hs0, hs1⟩ := id hk
  have W3 := w_pick3 hW 0 3 5 rfl rfl rfl (by decide) (by decide) (by decide)
  obtain ⟨td, tp, ts, ti, tu, tl, th, tn, tb, te, tv⟩ := id ht
  by_cases hb : m_bad v1 2 = true
  · exact lw_KX hJ (k := 1) (by decide) (by decide) (hx_configure_IOE (by decide) ho hg (c8_configure3 hl hb)) (lw_R.same ht (by decide) ⟨_, rfl⟩ (fun g1 h1 => c_mconfigure3 hb h1))
  obtain ⟨s, hs, rfl⟩ := m_badE (v := v1) (m := 2) (by decide) (by simpa using hb)
  have sd := m_st_sd hs ts
  have tw := ti.1.two hs
  have ht9 := ti.2.2
  have hd8 := td.2.2.2.1.2
  by_cases hb2 : m_bad v2 16 = true
  · exact lw_KX hJ (k := 2) (by decide) (by decide) (hx_configure_IAE (by decide) ho hg (c8_configure2 hl hs hb2)) (lw_R.same ht (by decide) ⟨_, rfl⟩ (fun g1 h1 => c_mconfigure2 hs hb2 h1))
  obtain ⟨ad, had, rfl⟩ := m_badE (v := v2) (m := 16) (by decide) (by simpa using hb2)
  obtain ⟨z, hz⟩ : ∃ z, z = A.D.1 (4 * s + 2) := ⟨_, rfl⟩
  have hz1 : A.D.1 (s * 4 + 2) = z := by rw [Nat.mul_comm s 4]; exact hz.symm
  have hz2 := tp.1 (4 * s + 2) (by omega)
  have hz3 := tw.2.2.1 2 (by decide)
  rw [← hz] at hz2 hz3
  by_cases hlt : z ≤ s_cnt 2 (s_sd s A.s).1
  · exact lw_KX hJ (k := 3) (by decide) (by decide) (hx_configure_ISE (by decide) ho hg (c8_configure1 hl hs td had (by rw [hz1]; exact hlt) hX)) (lw_R.same ht (by decide) ⟨_, rfl⟩ (fun g1 h1 => c_mconfigure1 hs sd tp.2.2.2.2.2.1 hd8 tw.2.2.2 hz2.1 hz2.2.2.1 hz3 had (Or.inl hlt) h1))
  have hlt : s_cnt 2 (s_sd s A.s).1 < z := by omega
  cases hf : s_fl (s_sd s A.s).2.2.1.1 A.D.2.2.2.2.2.1 0 with
  | none =>
    exact lw_KX hJ (k := 3) (by decide) (by decide) (hx_configure_ISE (by decide) ho hg (c8_configure4 hl hs td had (by rw [hz1]; exact hlt) tw.2.2.2 hf hX)) (lw_R.same ht (by decide) ⟨_, rfl⟩ (fun g1 h1 => c_mconfigure1 hs sd tp.2.2.2.2.2.1 hd8 tw.2.2.2 hz2.1 hz2.2.2.1 hz3 had (Or.inr hf) h1))
  | some t =>
    have ht8 : t < 8 := by have := s_fl_lt _ _ _ hf; omega
    refine lw_K2 (cv := (fun v => v.toInt64)) (hl_configure (by decide) ho hg (lw_K1 (F := lw_RF l E L o mX9_configure [.ref (o + 407), .int (nI s), .int (nI ad), .int v3, .int (tB rx)] I B) hJ (lw_C.keep (c8_configure0 hs td (by omega) had (by rw [hz1]; exact hlt) tw.2.2.2 hf hX) (fun τ hlk => ⟨3, by decide, fun g1 h1 => (c_mconfigure0 (σ := A.s) (hl := A.hs) hs sd tp.2.2.2.2.2.1 hd8 tw.2.2.2 hz2.1 hz2.2.2.1 hz3 had hlt hf ht8 ts.1 (by omega) tu tl hlen ts h1).imp (fun r g2 hr => ?_)⟩))))
    obtain ⟨h1, N, U9, h2, h3, h4, h5⟩ := hr
    exact ⟨h1, _, _, h2, rfl, ht.kp hlk (m_st_pt hs ts h4 h5) h3 rfl (ti.ask hs ht8 (s_fl_0 _ _ _ hf) (lw_eok ht8 (by decide) ⟨by decide, by decide⟩) (Or.inr ⟨rfl, rfl⟩) rfl rfl (by rw [hz] at hlt; exact hlt)) (fun i hi => by unfold va_up; rw [if_neg (by omega), if_neg (by omega)]) rfl rfl⟩
theorem pr_release {l : Launch} {E : bz_E} {L : List Nat} {o : Nat} {g : Nat → va_E} {A : WA} {I : Nat → Int32} {B : Nat → Nat → Int32} {U : Nat → Int64} {V : Nat → UInt64} (hl : l.stackTraces = false) (hJ : lw_J E L g o A I B U V) (v1 v2 : Int32) : lw_PH l E L o g mL_release tL_release mX9_release [.ref o, .int v1, .int v2, .ref (o + 423)] [.ref (o + 407), .int v1, .int v2] (fun v => v.toInt64) := by
  obtain ⟨hX, hM, hU, hV, ht⟩ := id hJ
  obtain ⟨ho, fs, hg⟩ := lw_m8 hX
  obtain ⟨R, hW, hk⟩ := id hX
  obtain ⟨hn6, hb6, hpq, hT, hD, hS, hnw, hlen, hrg, hs0, hs1⟩ := id hk
  have W3 := w_pick3 hW 0 3 5 rfl rfl rfl (by decide) (by decide) (by decide)
  obtain ⟨td, tp, ts, ti, tu, tl, th, tn, tb, te, tv⟩ := id ht
  by_cases hb : m_bad v1 2 = true
  · exact lw_KX hJ (k := 1) (by decide) (by decide) (hx_release_IOE (by decide) ho hg (c8_release3 hl hb hX)) (lw_R.same ht (by decide) ⟨_, rfl⟩ (fun g1 h1 => c_mrelease3 hb h1))
  obtain ⟨s, hs, rfl⟩ := m_badE (v := v1) (m := 2) (by decide) (by simpa using hb)
  have sd := m_st_sd hs ts
  have tw := ti.1.two hs
  have ht9 := ti.2.2
  have hd8 := td.2.2.2.1.2
  by_cases hb2 : m_bad v2 A.D.2.2.2.2.2.1 = true
  · exact lw_KX hJ (k := 1) (by decide) (by decide) (hx_release_IOE (by decide) ho hg (c8_release2 hl hs td hb2 hX)) (lw_R.same ht (by decide) ⟨_, rfl⟩ (fun g1 h1 => c_mrelease2 hs tp.2.2.2.2.2.1 hb2 h1))
  obtain ⟨t, htm, rfl⟩ := m_badE (v := v2) (m := A.D.2.2.2.2.2.1) (by omega) (by simpa using hb2)
  have ht8 : t < 8 := by omega
  have h2t := tw.2.2.2 t ht8
  by_cases hc : (s_sd s A.s).2.2.1.1 t = 2
  · refine lw_K2 (cv := (fun v => v.toInt64)) (hl_release (by decide) ho hg (lw_K1 (F := lw_RF l E L o mX9_release [.ref (o + 407), .int (nI s), .int (nI t)] I B) hJ (lw_C.keep (c8_release0 hs td htm hc hX) (fun τ hlk => ⟨4, by decide, fun g1 h1 => (c_mrelease0 (σ := A.s) (hl := A.hs) hs tp.2.2.2.2.2.1 htm (by omega) hd8 sd h2t hc tu tl hlen ts h1).imp (fun r g2 hr => ?_)⟩))))
    obtain ⟨h1, N, U9, h2, h3, h4, h5⟩ := hr
    exact ⟨h1, _, _, h2, rfl, ht.kp hlk (m_st_pt hs ts h4 h5) h3 rfl (ti.rls hs ht8 hc) (fun i hi => by unfold va_up; rw [if_neg (by omega), if_neg (by omega)]) rfl rfl⟩
  exact lw_KX hJ (k := 2) (by decide) (by decide) (hx_release_ISE (by decide) ho hg (c8_release1 hl hs td htm h2t hc hX)) (lw_R.same ht (by decide) ⟨_, rfl⟩ (fun g1 h1 => c_mrelease1 hs tp.2.2.2.2.2.1 htm (by omega) hd8 sd h2t hc h1))
