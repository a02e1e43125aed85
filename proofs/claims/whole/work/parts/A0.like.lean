/-! class and reference: memory beyond 16 is read by nobody -/
theorem m_sd_cp {N : Nat → Int32} {s : Nat} {P : Po} {m : Nat → Int32} (h : m_sd N s P) : m_sd N s (P.1, P.2.1, P.2.2.1, va_cpy P.2.2.2.1 m 0 0 16, P.2.2.2.2) := by
  obtain ⟨h1, h2, h3, h4, h5, h6, h7⟩ := h
  exact ⟨h1, h2, h3, h4, h5, fun i hi => (h6 i hi).trans (va_cpyt hi).symm, h7⟩
theorem m_st_like {N : Nat → Int32} {σ τ : Si} (h : m_st N σ) (hl : s_like σ τ) : m_st N τ := by
  obtain ⟨m0, m1, rfl⟩ := hl
  exact ⟨h.1, m_sd_cp h.2.1, m_sd_cp h.2.2⟩
theorem m_un_kp {U : Nat → Int32} {hs : List Si} {σ τ : Si} (h : m_un U (s_kp hs σ)) (hl : s_like σ τ) : m_un U (s_kp hs τ) := by
  intro i x hx
  unfold s_kp at h hx
  generalize (if hs.length = 10 then hs.tail else hs) = l0 at h hx
  rcases Nat.lt_or_ge i l0.length with c | c
  · rw [List.getElem?_append_left c] at hx
    exact h i x (by rw [List.getElem?_append_left c]; exact hx)
  · rw [List.getElem?_append_right c] at hx
    have hi : i - l0.length = 0 := by have := (List.getElem?_eq_some_iff.mp hx).1; simp at this; omega
    rw [hi] at hx
    cases hx
    exact m_st_like (h i σ (by rw [List.getElem?_append_right c, hi]; rfl)) hl
theorem s_kp_like_len {hs : List Si} {σ τ : Si} : (s_kp hs σ).length = (s_kp hs τ).length := by
  unfold s_kp
  rw [List.length_append, List.length_append]
  rfl
