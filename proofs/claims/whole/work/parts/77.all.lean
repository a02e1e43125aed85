/-! all that holds of every situation, kept by every change -/
def s_all (pl : Pl) (σ : Si) : Prop := s_inv pl σ ∧ s_hb σ ∧ s_t2 σ
def s_sd (s : Nat) (σ : Si) : Po := if s = 0 then σ.2.1 else σ.2.2
def s_pt (s : Nat) (σ : Si) (P : Po) : Si := if s = 0 then (σ.1, P, σ.2.2) else (σ.1, σ.2.1, P)
theorem s_all.tick {pl : Pl} {σ : Si} (hsp : 1 ≤ pl.2.2.2.2.1) (h : s_all pl σ) : s_all pl (s_tick pl σ) := ⟨h.1.tick hsp, h.2.1.tick, h.2.2.tick⟩
theorem s_all.run {pl : Pl} {σ : Si} (hsp : 1 ≤ pl.2.2.2.2.1) (n : Nat) (h : s_all pl σ) : s_all pl (s_run pl n σ) := ⟨h.1.run hsp n, h.2.1.run n, h.2.2.run n⟩
theorem s_all_pt {pl : Pl} {σ : Si} {s : Nat} {P : Po} (hs : s < 2) (h : s_all pl σ) (hq : ∀ y ∈ P.1, tM y ≤ σ.1) (hc : ∀ k, k < 4 → s_cnt k P.1 ≤ pl.1 (4 * s + k)) (hh : P.2.1 = (s_sd s σ).2.1) (h2 : s_two P (s_sd (1 - s) σ)) (ht : ∀ t, t < 8 → P.2.2.1.1 t ≤ 2) : s_all pl (s_pt s σ P) := by
  obtain ⟨⟨a1, a2, a3, a4, a5⟩, ⟨b1, b2⟩, c⟩ := h
  rcases (show s = 0 ∨ s = 1 by omega) with rfl | rfl
  · have hh : P.2.1 = σ.2.1.2.1 := hh
    have h2 : s_two P σ.2.2 := h2
    refine ⟨⟨hq, a2, fun k hk => ?_, a4, h2⟩, ⟨fun x hx => ?_, b2⟩, fun t ht8 => ⟨ht t ht8, (c t ht8).2⟩⟩
    · have := hc k hk; rw [show 4 * 0 + k = k by omega] at this; exact this
    · have hx : x ∈ P.2.1 := hx
      rw [hh] at hx; exact b1 x hx
  · have hh : P.2.1 = σ.2.2.2.1 := hh
    have h2 : s_two P σ.2.1 := h2
    refine ⟨⟨a1, hq, a3, fun k hk => ?_, h2.sw⟩, ⟨b1, fun x hx => ?_⟩, fun t ht8 => ⟨(c t ht8).1, ht t ht8⟩⟩
    · have := hc k hk; rw [show 4 * 1 + k = 4 + k by omega] at this; exact this
    · have hx : x ∈ P.2.1 := hx
      rw [hh] at hx; exact b2 x hx
theorem s_all.two {pl : Pl} {σ : Si} {s : Nat} (hs : s < 2) (h : s_all pl σ) : s_two (s_sd s σ) (s_sd (1 - s) σ) ∧ (∀ y ∈ (s_sd s σ).1, tM y ≤ σ.1) ∧ (∀ k, k < 4 → s_cnt k (s_sd s σ).1 ≤ pl.1 (4 * s + k)) ∧ ∀ t, t < 8 → (s_sd s σ).2.2.1.1 t ≤ 2 := by
  obtain ⟨⟨a1, a2, a3, a4, a5⟩, ⟨b1, b2⟩, c⟩ := h
  rcases (show s = 0 ∨ s = 1 by omega) with rfl | rfl
  · refine ⟨a5, a1, fun k hk => ?_, fun t ht => (c t ht).1⟩
    rw [show 4 * 0 + k = k by omega]; exact a3 k hk
  · refine ⟨a5.sw, a2, fun k hk => ?_, fun t ht => (c t ht).2⟩
    rw [show 4 * 1 + k = 4 + k by omega]; exact a4 k hk
theorem s_cnt_ap {pl : Pl} {s : Nat} {l : List Tx} {x : Tx} (h : ∀ k, k < 4 → s_cnt k l ≤ pl.1 (4 * s + k)) (hx : s_cnt (tK x) l < pl.1 (4 * s + tK x)) : ∀ k, k < 4 → s_cnt k (l ++ [x]) ≤ pl.1 (4 * s + k) := fun k hk => by
  rw [s_cnt_app]
  by_cases c : tK x = k
  · subst c; rw [if_pos rfl]; omega
  · rw [if_neg c]; exact h k hk
theorem s_all.post {pl : Pl} {σ : Si} {s : Nat} {x : Tx} (hs : s < 2) (h : s_all pl σ) (hk : tK x = 0) (hx : s_eok x) (hm : tM x = σ.1) (hc : s_cnt (tK x) (s_sd s σ).1 < pl.1 (4 * s + tK x)) : s_all pl (s_pt s σ ((s_sd s σ).1 ++ [x], (s_sd s σ).2)) := by
  obtain ⟨h1, h2, h3, h4⟩ := h.two hs
  refine s_all_pt hs h (fun y hy => ?_) (s_cnt_ap h3 hc) rfl (s_two_post h1 hk hx) h4
  rcases List.mem_append.mp hy with c | c
  · exact h2 y c
  · rw [List.mem_singleton.mp c, hm]; exact Nat.le_refl _
theorem s_all.ask {pl : Pl} {σ : Si} {s t w : Nat} {x : Tx} (hs : s < 2) (h : s_all pl σ) (ht : t < 8) (hf : (s_sd s σ).2.2.1.1 t = 0) (hx : s_eok x) (hk : (tK x = 1 ∧ s_w x ≤ w ∧ w ≠ 0) ∨ (tK x = 2 ∧ w = 0)) (hxt : tT x = t) (hm : tM x = σ.1) (hc : s_cnt (tK x) (s_sd s σ).1 < pl.1 (4 * s + tK x)) : s_all pl (s_pt s σ ((s_sd s σ).1 ++ [x], (s_sd s σ).2.1, s_bgn (s_sd s σ).2.2.1 t w, (s_sd s σ).2.2.2)) := by
  obtain ⟨h1, h2, h3, h4⟩ := h.two hs
  refine s_all_pt hs h (fun y hy => ?_) (s_cnt_ap h3 hc) rfl (s_two_ask h1 ht hf hx hk hxt) (fun u hu => ?_)
  · rcases List.mem_append.mp hy with c | c
    · exact h2 y c
    · rw [List.mem_singleton.mp c, hm]; exact Nat.le_refl _
  · show va_up (s_sd s σ).2.2.1.1 t 1 u ≤ 2
    unfold va_up
    by_cases c : u = t
    · rw [if_pos c]; decide
    · rw [if_neg c]; exact h4 u hu
theorem s_all.rls {pl : Pl} {σ : Si} {s t : Nat} (hs : s < 2) (h : s_all pl σ) (ht : t < 8) (hf : (s_sd s σ).2.2.1.1 t = 2) : s_all pl (s_pt s σ ((s_sd s σ).1, (s_sd s σ).2.1, s_rls (s_sd s σ).2.2.1 t, (s_sd s σ).2.2.2)) := by
  obtain ⟨h1, h2, h3, h4⟩ := h.two hs
  refine s_all_pt hs h h2 h3 rfl (s_two_rls h1 ht hf) (fun u hu => ?_)
  show va_up (s_sd s σ).2.2.1.1 t 0 u ≤ 2
  unfold va_up
  by_cases c : u = t
  · rw [if_pos c]; decide
  · rw [if_neg c]; exact h4 u hu
theorem s_all_0 {pl : Pl} {σ : Si} (h0 : σ.2.1.1 = [] ∧ σ.2.1.2.1 = [] ∧ ∀ t, t < 8 → σ.2.1.2.2.1.1 t = 0 ∧ σ.2.1.2.2.1.2.2.1 t = 0) (h1 : σ.2.2.1 = [] ∧ σ.2.2.2.1 = [] ∧ ∀ t, t < 8 → σ.2.2.2.2.1.1 t = 0 ∧ σ.2.2.2.2.1.2.2.1 t = 0) : s_all pl σ := by
  have hn : ∀ y : Tx, y ∈ ([] : List Tx) → False := fun y hy => by simp at hy
  refine ⟨⟨by rw [h0.1]; exact fun y hy => (hn y hy).elim, by rw [h1.1]; exact fun y hy => (hn y hy).elim, by rw [h0.1]; exact fun k _ => Nat.zero_le _, by rw [h1.1]; exact fun k _ => Nat.zero_le _, s_two_0 h0 h1⟩, ⟨by rw [h0.2.1]; exact fun y hy => (hn y hy).elim, by rw [h1.2.1]; exact fun y hy => (hn y hy).elim⟩, fun t ht => ⟨?_, ?_⟩⟩
  · rw [(h0.2.2 t ht).1]; decide
  · rw [(h1.2.2 t ht).1]; decide
theorem m_st_pt {N N' : Nat → Int32} {σ : Si} {s : Nat} {P : Po} (hs : s < 2) (h : m_st N σ) (hP : m_sd N' s P) (hf : ∀ j, ¬ m_rg s j → N' j = N j) : m_st N' (s_pt s σ P) := by
  rcases (show s = 0 ∨ s = 1 by omega) with rfl | rfl
  · exact ⟨(hf 0 (by unfold m_rg; omega)).trans h.1, hP, m_sd_fr h.2.2 (fun j hj => hf j (by unfold m_rg at hj ⊢; omega))⟩
  · exact ⟨(hf 0 (by unfold m_rg; omega)).trans h.1, m_sd_fr h.2.1 (fun j hj => hf j (by unfold m_rg at hj ⊢; omega)), hP⟩
theorem m_st_sd {N : Nat → Int32} {σ : Si} {s : Nat} (hs : s < 2) (h : m_st N σ) : m_sd N s (s_sd s σ) := by
  rcases (show s = 0 ∨ s = 1 by omega) with rfl | rfl
  · exact h.2.1
  · exact h.2.2
