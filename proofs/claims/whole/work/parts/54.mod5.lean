/-! the reference: answers -/
theorem m_cm_ag {N : Nat → Int32} {s n j : Nat} {k tag ad wd rel : Int32} (h1 : j ≠ 1 + s) (h2 : ¬ (155 + 480 * s + 15 * n ≤ j ∧ j < 155 + 480 * s + 15 * n + 15)) : m_cm N s n k tag ad wd rel j = N j := by
  unfold m_cm
  rw [upd_ne h1, upd_ne (by omega), upd_ne (by omega), upd_ne (by omega), upd_ne (by omega), upd_ne (by omega), upd_ne (by omega)]
  simp only [v_z]
  rw [if_neg h2]
theorem m_cm_at {N : Nat → Int32} {s n : Nat} {k tag ad wd rel : Int32} (hs : s < 2) : m_cm N s n k tag ad wd rel (155 + 480 * s + 15 * n + 0) = k ∧ m_cm N s n k tag ad wd rel (155 + 480 * s + 15 * n + 1) = tag ∧ m_cm N s n k tag ad wd rel (155 + 480 * s + 15 * n + 2) = ad ∧ m_cm N s n k tag ad wd rel (155 + 480 * s + 15 * n + 3) = wd ∧ m_cm N s n k tag ad wd rel (155 + 480 * s + 15 * n + 5) = rel ∧ m_cm N s n k tag ad wd rel (155 + 480 * s + 15 * n + 6) = N 0 ∧ m_cm N s n k tag ad wd rel (1 + s) = nI (n + 1) ∧ m_cm N s n k tag ad wd rel (155 + 480 * s + 15 * n + 14) = nI 0 := by
  unfold m_cm
  refine ⟨?_, ?_, ?_, ?_, ?_, ?_, upd_eq, ?_⟩
  · rw [upd_ne (by omega), upd_ne (by omega), upd_ne (by omega), upd_ne (by omega), upd_ne (by omega), upd_ne (by omega), upd_eq]
  · rw [upd_ne (by omega), upd_ne (by omega), upd_ne (by omega), upd_ne (by omega), upd_ne (by omega), upd_eq]
  · rw [upd_ne (by omega), upd_ne (by omega), upd_ne (by omega), upd_ne (by omega), upd_eq]
  · rw [upd_ne (by omega), upd_ne (by omega), upd_ne (by omega), upd_eq]
  · rw [upd_ne (by omega), upd_ne (by omega), upd_eq]
  · rw [upd_ne (by omega), upd_eq]
  · rw [upd_ne (by omega), upd_ne (by omega), upd_ne (by omega), upd_ne (by omega), upd_ne (by omega), upd_ne (by omega), upd_ne (by omega)]
    simp only [v_z]
    rw [if_pos ⟨by omega, by omega⟩]
theorem m_sd_app {N N' : Nat → Int32} {s : Nat} {P : Po} {y : Tx} (hs : s < 2) (h : m_sd N s P) (hl : P.1.length < 32) (hy : m_wt N' (155 + 480 * s + 15 * P.1.length) y) (hn : N' (1 + s) = nI (P.1.length + 1)) (hag : ∀ j, j ≠ 1 + s → ¬ (155 + 480 * s + 15 * P.1.length ≤ j ∧ j < 155 + 480 * s + 15 * P.1.length + 15) → N' j = N j) (hok : s_lok (P.1 ++ [y])) : m_sd N' s (P.1 ++ [y], P.2) := by
  obtain ⟨h1, h2, h3, h4, h5, h6, h7, h8, h9, h10, h11⟩ := h
  have l2 := h11.len
  refine ⟨by rw [hn, List.length_append]; rfl, (hag _ (by omega) (by omega)).trans h2, (hag _ (by omega) (by omega)).trans h3, (hag _ (by omega) (by omega)).trans h4, (hag _ (by omega) (by omega)).trans h5, fun i hi => (hag _ (by omega) (by omega)).trans (h6 i hi), m_tg_fr h7 (fun j a b => hag j (by omega) (by omega)), fun k x hx => ?_, fun k x hx => ?_, hok, h11⟩
  · by_cases hk : k < P.1.length
    · rw [List.getElem?_append_left hk] at hx
      exact m_wt_mv (h10.1 x (List.mem_of_getElem? hx)).2.2.2.2.2.2.1 (h8 k x hx) (fun j hj => hag _ (by omega) (by omega))
    · rw [List.getElem?_append_right (by omega)] at hx
      have hz : k - P.1.length = 0 := by
        have := (List.getElem?_eq_some_iff.mp hx).1
        simp at this; omega
      rw [hz] at hx
      have e : y = x := by simpa using hx
      subst e
      rw [show k = P.1.length by omega]
      exact hy
  · have hl2 := (List.getElem?_eq_some_iff.mp hx).1
    exact m_hd_mv (h11.1 x (List.mem_of_getElem? hx)).2.2.2.2.2.2.1 (h9 k x hx) (fun j hj => hag _ (by omega) (by omega))
/-- the count of answered words of a held read is written -/
theorem m_sd_done {N : Nat → Int32} {s p off : Nat} {P : Po} {x : Tx} (hs : s < 2) (h : m_sd N s P) (hx : P.2.1[p]? = some x) (hk : tK x = 1) (ho : off ≤ tW x) : m_sd (upd N (1115 + 480 * s + 15 * p + 14) (nI off)) s (P.1, P.2.1.set p (tK x, tT x, tR x, tA x, tW x, tM x, off, tV x), P.2.2) := by
  obtain ⟨h1, h2, h3, h4, h5, h6, h7, h8, h9, h10, h11⟩ := h
  have l1 := h10.len
  have l2 := h11.len
  have hp := (List.getElem?_eq_some_iff.mp hx).1
  obtain ⟨x1, x2, x3, x4, x5, x6, x7, x8, x9, x10⟩ := h11.1 x (List.mem_of_getElem? hx)
  refine ⟨by rw [upd_ne (by omega)]; exact h1, by rw [upd_ne (by omega)]; simpa using h2, by rw [upd_ne (by omega)]; exact h3, by rw [upd_ne (by omega)]; exact h4, by rw [upd_ne (by omega)]; exact h5, fun i hi => by rw [upd_ne (by omega)]; exact h6 i hi, m_tg_fr h7 (fun j a b => upd_ne (by omega)), fun k y hy => ?_, fun k y hy => ?_, h10, s_lok_set h11 hx ⟨x1, x2, x3, x4, x5, by show off ≤ 4; omega, x7, x8, fun h => absurd (show tK x = 3 from h) (by omega), fun _ => ho⟩ rfl⟩
  · have hl2 : k < P.1.length := (List.getElem?_eq_some_iff.mp hy).1
    exact m_wt_mv (h10.1 y (List.mem_of_getElem? hy)).2.2.2.2.2.2.1 (h8 k y hy) (fun j hj => upd_ne (by omega))
  · by_cases hkp : k = p
    · subst hkp
      rw [List.getElem?_set_self hp] at hy
      cases hy
      obtain ⟨⟨a0, a1, a2, a3, a5, aw, a7, a8⟩, ac, lt, b1, b2, b3, b4⟩ := h9 k x hx
      refine ⟨⟨by rw [upd_ne (by omega)]; exact a0, by rw [upd_ne (by omega)]; exact a1, by rw [upd_ne (by omega)]; exact a2, by rw [upd_ne (by omega)]; exact a3, by rw [upd_ne (by omega)]; exact a5, fun hc => absurd hc (by show ¬ (tK x = 0 ∨ tK x = 2); omega), fun hc => absurd (show tK x = 3 from hc) (by omega), fun _ => upd_eq⟩, ac, lt, by rw [upd_ne (by omega)]; exact b1, by rw [upd_ne (by omega)]; exact b2, b3, b4⟩
    · rw [List.getElem?_set_ne (Ne.symm hkp)] at hy
      have hl2 := (List.getElem?_eq_some_iff.mp hy).1
      exact m_hd_mv (h11.1 y (List.mem_of_getElem? hy)).2.2.2.2.2.2.1 (h9 k y hy) (fun j hj => upd_ne (by omega))
def m_cp (N : Nat → Int32) (d b i : Nat) : Nat → Int32 := fun j => if d ≤ j ∧ j < d + i then N (b + (j - d)) else N j
theorem m_cp0 {N : Nat → Int32} {d b : Nat} : m_cp N d b 0 = N := by funext j; simp only [m_cp]; rw [if_neg (by omega)]
theorem m_cpS {N : Nat → Int32} {d b i : Nat} (h : b + i < d ∨ d + i ≤ b) : upd (m_cp N d b i) (d + i) (m_cp N d b i (b + i)) = m_cp N d b (i + 1) := by
  have e : m_cp N d b i (b + i) = N (b + i) := by simp only [m_cp]; rw [if_neg (by omega)]
  rw [e]
  funext j
  by_cases h1 : j = d + i
  · subst h1; rw [upd_eq]; simp only [m_cp]; rw [if_pos ⟨by omega, by omega⟩, show d + i - d = i by omega]
  · rw [upd_ne h1]; simp only [m_cp]
    by_cases h2 : d ≤ j ∧ j < d + i
    · rw [if_pos h2, if_pos ⟨by omega, by omega⟩]
    · rw [if_neg h2, if_neg (by omega)]

theorem m_cmp_ag {N : Nat → Int32} {s n off i b j : Nat} {k tag ad wd rel : Int32} (hi : i ≤ 4) (h1 : j ≠ 1 + s) (h2 : ¬ (155 + 480 * s + 15 * n ≤ j ∧ j < 155 + 480 * s + 15 * n + 15)) : m_cp (upd (m_cm N s n k tag ad wd rel) (155 + 480 * s + 15 * n + 7) (nI off)) (155 + 480 * s + 15 * n + 8) b i j = N j := by
  simp only [m_cp]
  rw [if_neg (by omega), upd_ne (by omega)]
  exact m_cm_ag h1 h2
theorem m_cmp_cn {N : Nat → Int32} {s n off i b : Nat} {k tag ad wd rel : Int32} (hs : s < 2) (hi : i ≤ 4) : m_cp (upd (m_cm N s n k tag ad wd rel) (155 + 480 * s + 15 * n + 7) (nI off)) (155 + 480 * s + 15 * n + 8) b i (1 + s) = nI (n + 1) := by
  simp only [m_cp]
  rw [if_neg (by omega), upd_ne (by omega)]
  exact (m_cm_at hs).2.2.2.2.2.2.1
theorem m_cmp_wt {N mem : Nat → Int32} {s n off part now : Nat} {x : Tx} (hs : s < 2) (hn : n < 32) (hk : tK x ≠ 0) (hb : tA x + off + part ≤ 16) (hp : part ≤ 4) (h0 : N 0 = nI now) (hm : ∀ i, i < 16 → N (11 + 16 * s + i) = mem i) : m_wt (m_cp (upd (m_cm N s n (nI 3) (tI x) (nI (tA x + off)) (nI part) (tB (tR x))) (155 + 480 * s + 15 * n + 7) (nI off)) (155 + 480 * s + 15 * n + 8) (11 + 16 * s + (tA x + off)) part) (155 + 480 * s + 15 * n) (s_cmp mem x off part now) := by
  obtain ⟨c0, c1, c2, c3, c5, c6, -, -⟩ := m_cm_at (N := N) (s := s) (n := n) (k := nI 3) (tag := tI x) (ad := nI (tA x + off)) (wd := nI part) (rel := tB (tR x)) hs
  have hf : ∀ j, j < 7 → m_cp (upd (m_cm N s n (nI 3) (tI x) (nI (tA x + off)) (nI part) (tB (tR x))) (155 + 480 * s + 15 * n + 7) (nI off)) (155 + 480 * s + 15 * n + 8) (11 + 16 * s + (tA x + off)) part (155 + 480 * s + 15 * n + j) = m_cm N s n (nI 3) (tI x) (nI (tA x + off)) (nI part) (tB (tR x)) (155 + 480 * s + 15 * n + j) := fun j hj => by
    simp only [m_cp]
    rw [if_neg (by omega), upd_ne (by omega)]
  refine ⟨⟨(hf 0 (by omega)).trans c0, (hf 1 (by omega)).trans (c1.trans (by rw [tI, if_neg hk]; rfl)), (hf 2 (by omega)).trans c2, (hf 3 (by omega)).trans c3, (hf 5 (by omega)).trans c5, fun h => absurd h (by show ¬ (3 = 0 ∨ 3 = 2); decide), fun _ => ⟨?_, fun j v hj => ?_⟩, fun h => absurd (show (3 : Nat) = 1 from h) (by decide)⟩, (hf 6 (by omega)).trans (c6.trans h0)⟩
  · simp only [m_cp]
    rw [if_neg (by omega), upd_eq]
    rfl
  · simp only [s_cmp, tV] at hj
    rw [List.getElem?_map] at hj
    have hjl : j < part := by
      rcases Nat.lt_or_ge j part with h | h
      · exact h
      · rw [List.getElem?_eq_none (by simpa using h)] at hj; cases hj
    rw [List.getElem?_range hjl] at hj
    have hv : mem (tA x + off + j) = v := by simpa using hj
    simp only [m_cp]
    rw [if_pos ⟨by omega, by omega⟩, show 11 + 16 * s + (tA x + off) + (155 + 480 * s + 15 * n + 8 + j - (155 + 480 * s + 15 * n + 8)) = 11 + 16 * s + (tA x + off + j) by omega, upd_ne (by omega), m_cm_ag (by omega) (by omega), hm _ (by omega)]
    exact hv
theorem s_ans_end {mem : Nat → Int32} {now room sp : Nat} {x : Tx} {q : List Tx} {off : Nat} (h : tW x ≤ off) : ∀ m, s_ans mem now room sp x m q off = (q, off)
  | 0 => rfl
  | m + 1 => by rw [s_ans, if_neg (by omega)]
theorem s_setoff {l : List Tx} {p : Nat} {x : Tx} (h : l[p]? = some x) : l.set p (tK x, tT x, tR x, tA x, tW x, tM x, tO x, tV x) = l := s_setself h
set_option maxRecDepth 20000 in
set_option maxHeartbeats 1000000 in
theorem c_manswers {l : Launch} {E : bz_E} {L : List Nat} {g : Nat → va_E} {o : Nat} {I : Nat → Int32} {A : Nat → Nat → Int32} {s p now rm sp : Nat} {P : Po} {x : Tx} {mem : Nat → Int32} (hs : s < 2) (hP : m_sd (A 1) s P) (hmem : mem = P.2.2.2.1) (hpx : P.2.1[p]? = some x) (hk : tK x = 1) (hnow0 : A 1 0 = nI now) (hnow : now < 100000) (hrm : A 2 (4 * s + 3) = nI rm) (hrm8 : rm ≤ 8) (hcnt : s_cnt 3 P.1 ≤ rm) (hsp0 : A 6 0 = nI sp) (hsp : 1 ≤ sp ∧ sp ≤ 4) (hH : bz_H L g o (b_Mod E o I A)) : bz_K l E mX9_answers 2 [.ref o, .int (nI s), .int (nI (1115 + 480 * s + 15 * p))] L g (fun r g1 => r = some (.int (if tW x ≤ (s_ans mem now rm sp x 4 P.1 (tO x)).2 then 1 else 0)) ∧ ∃ N1 : Nat → Int32, bz_B L g g1 [(o, b_Mod E o (va_up I 24 (if (s_ans mem now rm sp x 4 P.1 (tO x)).1.length = P.1.length then I 24 else nI 1)) (va_up A 1 N1))] ∧ m_sd N1 s ((s_ans mem now rm sp x 4 P.1 (tO x)).1, P.2.1.set p (tK x, tT x, tR x, tA x, tW x, tM x, (s_ans mem now rm sp x 4 P.1 (tO x)).2, tV x), P.2.2) ∧ s_cnt 3 (s_ans mem now rm sp x 4 P.1 (tO x)).1 ≤ rm ∧ P.1.length ≤ (s_ans mem now rm sp x 4 P.1 (tO x)).1.length ∧ ∀ j, ¬ m_rg s j → N1 j = A 1 j) := by
  refine bz_K.of (by decide) (bz_le rfl) (fun sz => ?_)
  show bz_G _ _ _ _ _ _ _ _ _ _ _ _ 0 [(0, .ref o), (1, .int (nI s)), (2, .int (nI (1115 + 480 * s + 15 * p)))] []
  have hB := bz_B.rf (bz_W.one hH)
  subst hmem
  have hxo := hP.2.2.2.2.2.2.2.2.2.2.1 x (List.mem_of_getElem? hpx)
  have hp32 := (List.getElem?_eq_some_iff.mp hpx).1
  have hw32 := hP.2.2.2.2.2.2.2.2.2.2.len
  obtain ⟨x1, x2, x3, x4, x5, x6, x7, x8, x9, x10⟩ := id hxo
  have hle0 := x10 hk
  have hent : ∀ (Q : List Tx) (off : Nat) (N : Nat → Int32), m_sd N s (Q, P.2.1.set p (tK x, tT x, tR x, tA x, tW x, tM x, off, tV x), P.2.2) → m_tx N (1115 + 480 * s + 15 * p) (tK x, tT x, tR x, tA x, tW x, tM x, off, tV x) := fun Q off N h => (h.2.2.2.2.2.2.2.2.1 p _ (List.getElem?_set_self hp32)).1
  have X : ∀ (Q : List Tx) (off : Nat) (N : Nat → Int32) (mv : Int32) (g1 : Nat → va_E), off ≤ tW x → m_sd N s (Q, P.2.1.set p (tK x, tT x, tR x, tA x, tW x, tM x, off, tV x), P.2.2) → s_cnt 3 Q ≤ rm → (Q, off) = (s_ans P.2.2.2.1 now rm sp x 4 P.1 (tO x)) → P.1.length ≤ Q.length → mv = (if Q.length = P.1.length then I 24 else nI 1) → (∀ j, ¬ m_rg s j → N j = A 1 j) → bz_B L g g1 [(o, (b_Mod E o (va_up I 24 mv) (va_up A 1 N)))] → bz_G l E mX9_answers (bz_R 2 0 0) L sz (bz_Fm E L sz (fun r g1 => r = some (.int (if tW x ≤ (s_ans P.2.2.2.1 now rm sp x 4 P.1 (tO x)).2 then 1 else 0)) ∧ ∃ N1 : Nat → Int32, bz_B L g g1 [(o, b_Mod E o (va_up I 24 (if (s_ans P.2.2.2.1 now rm sp x 4 P.1 (tO x)).1.length = P.1.length then I 24 else nI 1)) (va_up A 1 N1))] ∧ m_sd N1 s ((s_ans P.2.2.2.1 now rm sp x 4 P.1 (tO x)).1, P.2.1.set p (tK x, tT x, tR x, tA x, tW x, tM x, (s_ans P.2.2.2.1 now rm sp x 4 P.1 (tO x)).2, tV x), P.2.2) ∧ s_cnt 3 (s_ans P.2.2.2.1 now rm sp x 4 P.1 (tO x)).1 ≤ rm ∧ P.1.length ≤ (s_ans P.2.2.2.1 now rm sp x 4 P.1 (tO x)).1.length ∧ ∀ j, ¬ m_rg s j → N1 j = A 1 j)) sz 0 0 L g1 215 [(0, .ref o), (1, .int (nI s)), (2, .int (nI (1115 + 480 * s + 15 * p)))] [] := by
    intro Q off N mv g hoff hN hcq hA hlq hmv hag hB
    have hxe := hent Q off N hN
    refine g_aload_n (q := 216) dX9_answers_215 rfl rfl ?_
    refine gb_getf (q := 219) (j := 0) (i := 0) dX9_answers_216 rfl fl_X9_7 hB rfl rfl rfl rfl ?_
    refine g_iload_n (q := 220) dX9_answers_219 rfl rfl ?_
    refine g_bipush (q := 222) (v := (nI 14)) dX9_answers_220 rfl (by decide) ?_
    refine g_iaddN (q := 223) dX9_answers_222 rfl ?_
    refine gb_ialdN (q := 224) (j := 0) (i := 1) dX9_answers_223 rfl hB rfl rfl rfl (by omega) (by decide) ?_
    refine g_eqi (v := nI (off)) (hxe.2.2.2.2.2.2.2 hk) ?_
    refine g_aload_n (q := 225) dX9_answers_224 rfl rfl ?_
    refine gb_getf (q := 228) (j := 0) (i := 0) dX9_answers_225 rfl fl_X9_7 hB rfl rfl rfl rfl ?_
    refine g_iload_n (q := 229) dX9_answers_228 rfl rfl ?_
    refine g_iconst (q := 230) (v := (nI 3)) dX9_answers_229 rfl (by decide) ?_
    refine g_iaddN (q := 231) dX9_answers_230 rfl ?_
    refine gb_ialdN (q := 232) (j := 0) (i := 1) dX9_answers_231 rfl hB rfl rfl rfl (by omega) (by decide) ?_
    refine g_eqi (v := nI (tW x)) (hxe.2.2.2.1) ?_
    refine g_icmpN_ne (q := 235) (t := 239) dX9_answers_232 rfl (by decide) (by omega) (by omega) (fun c_232 => ?_) (fun c_232 => ?_)
    · refine g_iconst (q := 240) (v := (nI 0)) dX9_answers_239 rfl (by decide) ?_
      exact g_zret dX9_answers_240 rfl rfl ⟨by rw [← hA]; first | (rw [if_pos (by dsimp only; omega)]; rfl) | (rw [if_neg (by dsimp only; omega)]; rfl), N, by rw [← hA]; rw [hmv] at hB; exact hB, by rw [← hA]; exact hN, by rw [← hA]; exact hcq, by rw [← hA]; exact hlq, hag⟩
    · refine g_iconst (q := 236) (v := (nI 1)) dX9_answers_235 rfl (by decide) ?_
      refine g_goto (q := 240) dX9_answers_236 (by decide) ?_
      exact g_zret dX9_answers_240 rfl rfl ⟨by rw [← hA]; first | (rw [if_pos (by dsimp only; omega)]; rfl) | (rw [if_neg (by dsimp only; omega)]; rfl), N, by rw [← hA]; rw [hmv] at hB; exact hB, by rw [← hA]; exact hN, by rw [← hA]; exact hcq, by rw [← hA]; exact hlq, hag⟩
  have K : ∀ (m : Nat) (Q : List Tx) (off : Nat) (N : Nat → Int32) (mv : Int32) (g1 : Nat → va_E), tW x - off ≤ m → off ≤ tW x → m_sd N s (Q, P.2.1.set p (tK x, tT x, tR x, tA x, tW x, tM x, off, tV x), P.2.2) → N 0 = nI now → s_cnt 3 Q ≤ rm → s_ans P.2.2.2.1 now rm sp x m Q off = (s_ans P.2.2.2.1 now rm sp x 4 P.1 (tO x)) → P.1.length ≤ Q.length → mv = (if Q.length = P.1.length then I 24 else nI 1) → (∀ j, ¬ m_rg s j → N j = A 1 j) → bz_B L g g1 [(o, (b_Mod E o (va_up I 24 mv) (va_up A 1 N)))] → bz_G l E mX9_answers (bz_R 2 0 0) L sz (bz_Fm E L sz (fun r g1 => r = some (.int (if tW x ≤ (s_ans P.2.2.2.1 now rm sp x 4 P.1 (tO x)).2 then 1 else 0)) ∧ ∃ N1 : Nat → Int32, bz_B L g g1 [(o, b_Mod E o (va_up I 24 (if (s_ans P.2.2.2.1 now rm sp x 4 P.1 (tO x)).1.length = P.1.length then I 24 else nI 1)) (va_up A 1 N1))] ∧ m_sd N1 s ((s_ans P.2.2.2.1 now rm sp x 4 P.1 (tO x)).1, P.2.1.set p (tK x, tT x, tR x, tA x, tW x, tM x, (s_ans P.2.2.2.1 now rm sp x 4 P.1 (tO x)).2, tV x), P.2.2) ∧ s_cnt 3 (s_ans P.2.2.2.1 now rm sp x 4 P.1 (tO x)).1 ≤ rm ∧ P.1.length ≤ (s_ans P.2.2.2.1 now rm sp x 4 P.1 (tO x)).1.length ∧ ∀ j, ¬ m_rg s j → N1 j = A 1 j)) sz 0 0 L g1 0 [(0, .ref o), (1, .int (nI s)), (2, .int (nI (1115 + 480 * s + 15 * p)))] [] := by
    intro m
    induction m with
    | zero =>
      intro Q off N mv g hm hoff hN hn0 hcq hA hlq hmv hag hB
      have hxe := hent Q off N hN
      refine g_aload_n (q := 1) dX9_answers_0 rfl rfl ?_
      refine gb_getf (q := 4) (j := 0) (i := 0) dX9_answers_1 rfl fl_X9_7 hB rfl rfl rfl rfl ?_
      refine g_iload_n (q := 5) dX9_answers_4 rfl rfl ?_
      refine g_bipush (q := 7) (v := (nI 14)) dX9_answers_5 rfl (by decide) ?_
      refine g_iaddN (q := 8) dX9_answers_7 rfl ?_
      refine gb_ialdN (q := 9) (j := 0) (i := 1) dX9_answers_8 rfl hB rfl rfl rfl (by omega) (by decide) ?_
      refine g_eqi (v := nI (off)) (hxe.2.2.2.2.2.2.2 hk) ?_
      refine g_aload_n (q := 10) dX9_answers_9 rfl rfl ?_
      refine gb_getf (q := 13) (j := 0) (i := 0) dX9_answers_10 rfl fl_X9_7 hB rfl rfl rfl rfl ?_
      refine g_iload_n (q := 14) dX9_answers_13 rfl rfl ?_
      refine g_iconst (q := 15) (v := (nI 3)) dX9_answers_14 rfl (by decide) ?_
      refine g_iaddN (q := 16) dX9_answers_15 rfl ?_
      refine gb_ialdN (q := 17) (j := 0) (i := 1) dX9_answers_16 rfl hB rfl rfl rfl (by omega) (by decide) ?_
      refine g_eqi (v := nI (tW x)) (hxe.2.2.2.1) ?_
      refine g_icmpN_ge (q := 20) (t := 215) dX9_answers_17 rfl (by decide) (by omega) (by omega) (fun _ => ?_) (fun c => absurd c (by omega))
      refine g_lvs (lv1 := [(0, .ref o), (1, .int (nI s)), (2, .int (nI (1115 + 480 * s + 15 * p)))]) ⟨rfl, rfl, rfl, trivial⟩ ?_
      exact X Q off N mv g hoff hN hcq (by rw [← hA, s_ans_end (by omega)]) hlq hmv hag hB
    | succ m ih =>
      intro Q off N mv g1 hm hoff hN hn0 hcq hA hlq hmv hag hB
      have hxe := hent Q off N hN
      by_cases hgo : off < tW x ∧ s_cnt 3 Q < rm
      · obtain ⟨hg1, hg2⟩ := hgo
        have hql : Q.length < 32 := hN.2.2.2.2.2.2.2.2.2.1.lt (k := 3) (by decide) (show s_cnt 3 Q < 8 by omega)
        have hpt : (min sp (tW x - off)) ≤ 4 := by omega
        have hwt := m_cmp_wt (N := N) (mem := P.2.2.2.1) (s := s) (n := Q.length) (off := off) (part := (min sp (tW x - off))) (now := now) (x := x) hs hql (by omega) (by omega) hpt hn0 hN.2.2.2.2.2.1
        have hagc : ∀ i, i ≤ 4 → ∀ j, j ≠ 1 + s → ¬ ((155 + 480 * s + 15 * Q.length) ≤ j ∧ j < (155 + 480 * s + 15 * Q.length) + 15) → (m_cp (upd (m_cm N s Q.length (nI 3) (tI x) (nI (tA x + off)) (nI (min sp (tW x - off))) (tB (tR x))) ((155 + 480 * s + 15 * Q.length) + 7) (nI off)) ((155 + 480 * s + 15 * Q.length) + 8) (11 + 16 * s + (tA x + off)) i) j = N j := fun i hi j h1 h2 => m_cmp_ag hi h1 h2
        have hcpo : ∀ i, i ≤ 4 → (m_cp (upd (m_cm N s Q.length (nI 3) (tI x) (nI (tA x + off)) (nI (min sp (tW x - off))) (tB (tR x))) ((155 + 480 * s + 15 * Q.length) + 7) (nI off)) ((155 + 480 * s + 15 * Q.length) + 8) (11 + 16 * s + (tA x + off)) i) ((1115 + 480 * s + 15 * p) + 14) = nI off := fun i hi => (hagc i hi _ (by omega) (by omega)).trans (hxe.2.2.2.2.2.2.2 hk)
        have happ := m_sd_app hs hN hql hwt (m_cmp_cn hs hpt) (hagc _ hpt) (hN.2.2.2.2.2.2.2.2.2.1.app (s_cmp_ok hxo (by omega) hnow) (show s_cnt 3 Q < 8 by omega))
        have hdon := m_sd_done (off := off + (min sp (tW x - off))) hs happ (List.getElem?_set_self hp32) hk (by show off + (min sp (tW x - off)) ≤ tW x; omega)
        rw [List.set_set] at hdon
        have L3 : ∀ (m3 i : Nat) (g1 : Nat → va_E), i + m3 = (min sp (tW x - off)) → bz_B L g g1 [(o, (b_Mod E o (va_up I 24 mv) (va_up A 1 (m_cp (upd (m_cm N s Q.length (nI 3) (tI x) (nI (tA x + off)) (nI (min sp (tW x - off))) (tB (tR x))) ((155 + 480 * s + 15 * Q.length) + 7) (nI off)) ((155 + 480 * s + 15 * Q.length) + 8) (11 + 16 * s + (tA x + off)) i))))] → bz_G l E mX9_answers (bz_R 2 0 0) L sz (bz_Fm E L sz (fun r g1 => r = some (.int (if tW x ≤ (s_ans P.2.2.2.1 now rm sp x 4 P.1 (tO x)).2 then 1 else 0)) ∧ ∃ N1 : Nat → Int32, bz_B L g g1 [(o, b_Mod E o (va_up I 24 (if (s_ans P.2.2.2.1 now rm sp x 4 P.1 (tO x)).1.length = P.1.length then I 24 else nI 1)) (va_up A 1 N1))] ∧ m_sd N1 s ((s_ans P.2.2.2.1 now rm sp x 4 P.1 (tO x)).1, P.2.1.set p (tK x, tT x, tR x, tA x, tW x, tM x, (s_ans P.2.2.2.1 now rm sp x 4 P.1 (tO x)).2, tV x), P.2.2) ∧ s_cnt 3 (s_ans P.2.2.2.1 now rm sp x 4 P.1 (tO x)).1 ≤ rm ∧ P.1.length ≤ (s_ans P.2.2.2.1 now rm sp x 4 P.1 (tO x)).1.length ∧ ∀ j, ¬ m_rg s j → N1 j = A 1 j)) sz 0 0 L g1 149 [(7, .int (nI i)), (6, .int (nI (155 + 480 * s + 15 * Q.length))), (5, .int (nI (tA x + off))), (4, .int (nI (min sp (tW x - off)))), (0, .ref o), (1, .int (nI s)), (2, .int (nI (1115 + 480 * s + 15 * p)))] [] := by
          intro m3
          induction m3 with
          | zero =>
            intro i g hi hB
            have hi2 : i = (min sp (tW x - off)) := by omega
            subst hi2
            refine g_iload (q := 151) dX9_answers_149 rfl rfl ?_
            refine g_iload (q := 153) dX9_answers_151 rfl rfl ?_
            refine g_icmpN_ge (q := 156) (t := 193) dX9_answers_153 rfl (by decide) (by omega) (by omega) (fun _ => ?_) (fun c => absurd c (by omega))
            refine g_aload_n (q := 194) dX9_answers_193 rfl rfl ?_
            refine gb_getf (q := 197) (j := 0) (i := 0) dX9_answers_194 rfl fl_X9_7 hB rfl rfl rfl rfl ?_
            refine g_iload_n (q := 198) dX9_answers_197 rfl rfl ?_
            refine g_bipush (q := 200) (v := (nI 14)) dX9_answers_198 rfl (by decide) ?_
            refine g_iaddN (q := 201) dX9_answers_200 rfl ?_
            refine g_dup2 (q := 202) dX9_answers_201 rfl rfl rfl ?_
            refine gb_ialdN (q := 203) (j := 0) (i := 1) dX9_answers_202 rfl hB rfl rfl rfl (by omega) (by decide) ?_
            refine g_eqi (v := nI (off)) (hcpo _ hpt) ?_
            refine g_iload (q := 205) dX9_answers_203 rfl rfl ?_
            refine g_iaddN (q := 206) dX9_answers_205 rfl ?_
            refine gb_iastN (q := 207) (j := 0) (i := 1) dX9_answers_206 rfl hB rfl rfl rfl (by omega) (by decide) (fun g hB => ?_)
            refine g_aload_n (q := 208) dX9_answers_207 rfl rfl ?_
            refine g_iconst (q := 209) (v := (nI 1)) dX9_answers_208 rfl (by decide) ?_
            refine gb_putf (q := 212) (j := 0) (i := 0) dX9_answers_209 rfl fp_X9_285 hB rfl rfl rfl (bz_le rfl) rfl rfl (fun g hB => ?_)
            refine g_goto (q := 0) dX9_answers_212 (by decide) ?_
            refine g_lvs (lv1 := [(0, .ref o), (1, .int (nI s)), (2, .int (nI (1115 + 480 * s + 15 * p)))]) ⟨rfl, rfl, rfl, trivial⟩ ?_
            refine ih (Q ++ [s_cmp P.2.2.2.1 x off (min sp (tW x - off)) now]) (off + (min sp (tW x - off))) (upd (m_cp (upd (m_cm N s Q.length (nI 3) (tI x) (nI (tA x + off)) (nI (min sp (tW x - off))) (tB (tR x))) ((155 + 480 * s + 15 * Q.length) + 7) (nI off)) ((155 + 480 * s + 15 * Q.length) + 8) (11 + 16 * s + (tA x + off)) (min sp (tW x - off))) ((1115 + 480 * s + 15 * p) + 14) (nI (off + (min sp (tW x - off))))) (nI 1) _ (by omega) (by omega) hdon (by rw [upd_ne (by omega)]; exact (hagc _ hpt 0 (by omega) (by omega)).trans hn0) (by rw [s_cnt_app, if_pos (show tK (s_cmp _ _ _ _ _) = 3 from rfl)]; omega) ?_ (by rw [List.length_append]; omega) (by rw [List.length_append, if_neg (by simp; omega)]) (fun j hj => by unfold m_rg at hj; rw [upd_ne (by omega), hagc _ hpt j (by omega) (by omega)]; exact hag j (by unfold m_rg; omega)) hB
            rw [← hA, s_ans, if_pos ⟨by omega, by omega⟩]
          | succ m3 ih3 =>
            intro i g hi hB
            refine g_iload (q := 151) dX9_answers_149 rfl rfl ?_
            refine g_iload (q := 153) dX9_answers_151 rfl rfl ?_
            refine g_icmpN_ge (q := 156) (t := 193) dX9_answers_153 rfl (by decide) (by omega) (by omega) (fun c => absurd c (by omega)) (fun _ => ?_)
            refine g_aload_n (q := 157) dX9_answers_156 rfl rfl ?_
            refine gb_getf (q := 160) (j := 0) (i := 0) dX9_answers_157 rfl fl_X9_7 hB rfl rfl rfl rfl ?_
            refine g_iload (q := 162) dX9_answers_160 rfl rfl ?_
            refine g_bipush (q := 164) (v := (nI 8)) dX9_answers_162 rfl (by decide) ?_
            refine g_iaddN (q := 165) dX9_answers_164 rfl ?_
            refine g_iload (q := 167) dX9_answers_165 rfl rfl ?_
            refine g_iaddN (q := 168) dX9_answers_167 rfl ?_
            refine g_aload_n (q := 169) dX9_answers_168 rfl rfl ?_
            refine gb_getf (q := 172) (j := 0) (i := 0) dX9_answers_169 rfl fl_X9_7 hB rfl rfl rfl rfl ?_
            refine g_bipush (q := 174) (v := (nI 11)) dX9_answers_172 rfl (by decide) ?_
            refine g_bipush (q := 176) (v := (nI 16)) dX9_answers_174 rfl (by decide) ?_
            refine g_iload_n (q := 177) dX9_answers_176 rfl rfl ?_
            refine g_imulN (q := 178) dX9_answers_177 rfl ?_
            refine g_iaddN (q := 179) dX9_answers_178 rfl ?_
            refine g_iload (q := 181) dX9_answers_179 rfl rfl ?_
            refine g_iaddN (q := 182) dX9_answers_181 rfl ?_
            refine g_iload (q := 184) dX9_answers_182 rfl rfl ?_
            refine g_iaddN (q := 185) dX9_answers_184 rfl ?_
            refine gb_ialdN (q := 186) (j := 0) (i := 1) dX9_answers_185 rfl hB rfl rfl rfl (by omega) (by decide) ?_
            refine gb_iastN (q := 187) (j := 0) (i := 1) dX9_answers_186 rfl hB rfl rfl rfl (by omega) (by decide) (fun g hB => ?_)
            refine g_iincN (q := 190) (c := 1) dX9_answers_187 rfl (by decide) rfl rfl (by decide) ?_
            refine g_goto (q := 149) dX9_answers_190 (by decide) ?_
            refine g_lvs (lv1 := [(7, .int (nI (i + 1))), (6, .int (nI (155 + 480 * s + 15 * Q.length))), (5, .int (nI (tA x + off))), (4, .int (nI (min sp (tW x - off)))), (0, .ref o), (1, .int (nI s)), (2, .int (nI (1115 + 480 * s + 15 * p)))]) ⟨rfl, rfl, rfl, rfl, rfl, rfl, rfl, trivial⟩ ?_
            refine ih3 (i + 1) _ (by omega) ?_
            rw [← m_cpS (by omega)]
            exact hB
        have J2 : bz_G l E mX9_answers (bz_R 2 0 0) L sz (bz_Fm E L sz (fun r g1 => r = some (.int (if tW x ≤ (s_ans P.2.2.2.1 now rm sp x 4 P.1 (tO x)).2 then 1 else 0)) ∧ ∃ N1 : Nat → Int32, bz_B L g g1 [(o, b_Mod E o (va_up I 24 (if (s_ans P.2.2.2.1 now rm sp x 4 P.1 (tO x)).1.length = P.1.length then I 24 else nI 1)) (va_up A 1 N1))] ∧ m_sd N1 s ((s_ans P.2.2.2.1 now rm sp x 4 P.1 (tO x)).1, P.2.1.set p (tK x, tT x, tR x, tA x, tW x, tM x, (s_ans P.2.2.2.1 now rm sp x 4 P.1 (tO x)).2, tV x), P.2.2) ∧ s_cnt 3 (s_ans P.2.2.2.1 now rm sp x 4 P.1 (tO x)).1 ≤ rm ∧ P.1.length ≤ (s_ans P.2.2.2.1 now rm sp x 4 P.1 (tO x)).1.length ∧ ∀ j, ¬ m_rg s j → N1 j = A 1 j)) sz 0 0 L g1 122 [(5, .int (nI (tA x + off))), (4, .int (nI (min sp (tW x - off)))), (0, .ref o), (1, .int (nI s)), (2, .int (nI (1115 + 480 * s + 15 * p)))] [.int (tB (tR x)), .int (nI (min sp (tW x - off))), .int (nI (tA x + off)), .int (tI x), .int (nI 3), .int (nI s), .ref o] := by
          refine gb_callV (q := 125) (j := 0) (i := 0) dX9_answers_122 rfl kv_X9_278 (c_mcomes (n := Q.length) (rx := tR x) hs hql hN.1 (hB.1.at (j := 0) rfl)) rfl (by decide) hB rfl rfl rfl rfl (bz_le rfl) (by decide) (by decide) (fun r g1 hQ => ?_)
          obtain ⟨rfl, h1⟩ := hQ
          have hB := hB.sp (j := 0) rfl 0 rfl h1 (bz_le rfl)
          have hB : bz_B L g _ [(o, (b_Mod E o (va_up I 24 mv) (va_up A 1 (m_cm N s Q.length (nI 3) (tI x) (nI (tA x + off)) (nI (min sp (tW x - off))) (tB (tR x))))))] := hB
          refine g_istore (q := 127) dX9_answers_125 rfl (by decide) rfl ?_
          refine g_aload_n (q := 128) dX9_answers_127 rfl rfl ?_
          refine gb_getf (q := 131) (j := 0) (i := 0) dX9_answers_128 rfl fl_X9_7 hB rfl rfl rfl rfl ?_
          refine g_iload (q := 133) dX9_answers_131 rfl rfl ?_
          refine g_bipush (q := 135) (v := (nI 7)) dX9_answers_133 rfl (by decide) ?_
          refine g_iaddN (q := 136) dX9_answers_135 rfl ?_
          refine g_aload_n (q := 137) dX9_answers_136 rfl rfl ?_
          refine gb_getf (q := 140) (j := 0) (i := 0) dX9_answers_137 rfl fl_X9_7 hB rfl rfl rfl rfl ?_
          refine g_iload_n (q := 141) dX9_answers_140 rfl rfl ?_
          refine g_bipush (q := 143) (v := (nI 14)) dX9_answers_141 rfl (by decide) ?_
          refine g_iaddN (q := 144) dX9_answers_143 rfl ?_
          refine gb_ialdN (q := 145) (j := 0) (i := 1) dX9_answers_144 rfl hB rfl rfl rfl (by omega) (by decide) ?_
          refine g_eqi (v := nI (off)) ((m_cm_ag (by omega) (by omega)).trans (hxe.2.2.2.2.2.2.2 hk)) ?_
          refine gb_iastN (q := 146) (j := 0) (i := 1) dX9_answers_145 rfl hB rfl rfl rfl (by omega) (by decide) (fun g hB => ?_)
          refine g_iconst (q := 147) (v := (nI 0)) dX9_answers_146 rfl (by decide) ?_
          refine g_istore (q := 149) dX9_answers_147 rfl (by decide) rfl ?_
          refine g_lvs (lv1 := [(7, .int (nI 0)), (6, .int (nI (155 + 480 * s + 15 * Q.length))), (5, .int (nI (tA x + off))), (4, .int (nI (min sp (tW x - off)))), (0, .ref o), (1, .int (nI s)), (2, .int (nI (1115 + 480 * s + 15 * p)))]) ⟨rfl, rfl, rfl, rfl, rfl, rfl, rfl, trivial⟩ ?_
          exact L3 (min sp (tW x - off)) 0 _ (by omega) (by rw [m_cp0]; exact hB)
        have J1 : bz_G l E mX9_answers (bz_R 2 0 0) L sz (bz_Fm E L sz (fun r g1 => r = some (.int (if tW x ≤ (s_ans P.2.2.2.1 now rm sp x 4 P.1 (tO x)).2 then 1 else 0)) ∧ ∃ N1 : Nat → Int32, bz_B L g g1 [(o, b_Mod E o (va_up I 24 (if (s_ans P.2.2.2.1 now rm sp x 4 P.1 (tO x)).1.length = P.1.length then I 24 else nI 1)) (va_up A 1 N1))] ∧ m_sd N1 s ((s_ans P.2.2.2.1 now rm sp x 4 P.1 (tO x)).1, P.2.1.set p (tK x, tT x, tR x, tA x, tW x, tM x, (s_ans P.2.2.2.1 now rm sp x 4 P.1 (tO x)).2, tV x), P.2.2) ∧ s_cnt 3 (s_ans P.2.2.2.1 now rm sp x 4 P.1 (tO x)).1 ≤ rm ∧ P.1.length ≤ (s_ans P.2.2.2.1 now rm sp x 4 P.1 (tO x)).1.length ∧ ∀ j, ¬ m_rg s j → N1 j = A 1 j)) sz 0 0 L g1 68 [(3, .int (nI (tW x - off))), (0, .ref o), (1, .int (nI s)), (2, .int (nI (1115 + 480 * s + 15 * p)))] [.int (nI (min sp (tW x - off)))] := by
          refine g_istore (q := 70) dX9_answers_68 rfl (by decide) rfl ?_
          refine g_aload_n (q := 71) dX9_answers_70 rfl rfl ?_
          refine gb_getf (q := 74) (j := 0) (i := 0) dX9_answers_71 rfl fl_X9_7 hB rfl rfl rfl rfl ?_
          refine g_iload_n (q := 75) dX9_answers_74 rfl rfl ?_
          refine g_iconst (q := 76) (v := (nI 2)) dX9_answers_75 rfl (by decide) ?_
          refine g_iaddN (q := 77) dX9_answers_76 rfl ?_
          refine gb_ialdN (q := 78) (j := 0) (i := 1) dX9_answers_77 rfl hB rfl rfl rfl (by omega) (by decide) ?_
          refine g_eqi (v := nI (tA x)) (hxe.2.2.1) ?_
          refine g_aload_n (q := 79) dX9_answers_78 rfl rfl ?_
          refine gb_getf (q := 82) (j := 0) (i := 0) dX9_answers_79 rfl fl_X9_7 hB rfl rfl rfl rfl ?_
          refine g_iload_n (q := 83) dX9_answers_82 rfl rfl ?_
          refine g_bipush (q := 85) (v := (nI 14)) dX9_answers_83 rfl (by decide) ?_
          refine g_iaddN (q := 86) dX9_answers_85 rfl ?_
          refine gb_ialdN (q := 87) (j := 0) (i := 1) dX9_answers_86 rfl hB rfl rfl rfl (by omega) (by decide) ?_
          refine g_eqi (v := nI (off)) (hxe.2.2.2.2.2.2.2 hk) ?_
          refine g_iaddN (q := 88) dX9_answers_87 rfl ?_
          refine g_istore (q := 90) dX9_answers_88 rfl (by decide) rfl ?_
          refine g_aload_n (q := 91) dX9_answers_90 rfl rfl ?_
          refine g_iload_n (q := 92) dX9_answers_91 rfl rfl ?_
          refine g_iconst (q := 93) (v := (nI 3)) dX9_answers_92 rfl (by decide) ?_
          refine g_aload_n (q := 94) dX9_answers_93 rfl rfl ?_
          refine gb_getf (q := 97) (j := 0) (i := 0) dX9_answers_94 rfl fl_X9_7 hB rfl rfl rfl rfl ?_
          refine g_iload_n (q := 98) dX9_answers_97 rfl rfl ?_
          refine g_iconst (q := 99) (v := (nI 1)) dX9_answers_98 rfl (by decide) ?_
          refine g_iaddN (q := 100) dX9_answers_99 rfl ?_
          refine gb_ialdN (q := 101) (j := 0) (i := 1) dX9_answers_100 rfl hB rfl rfl rfl (by omega) (by decide) ?_
          refine g_eqi (v := tI x) (hxe.2.1) ?_
          refine g_iload (q := 103) dX9_answers_101 rfl rfl ?_
          refine g_iload (q := 105) dX9_answers_103 rfl rfl ?_
          refine g_aload_n (q := 106) dX9_answers_105 rfl rfl ?_
          refine gb_getf (q := 109) (j := 0) (i := 0) dX9_answers_106 rfl fl_X9_7 hB rfl rfl rfl rfl ?_
          refine g_iload_n (q := 110) dX9_answers_109 rfl rfl ?_
          refine g_iconst (q := 111) (v := (nI 5)) dX9_answers_110 rfl (by decide) ?_
          refine g_iaddN (q := 112) dX9_answers_111 rfl ?_
          refine gb_ialdN (q := 113) (j := 0) (i := 1) dX9_answers_112 rfl hB rfl rfl rfl (by omega) (by decide) ?_
          refine g_iconst (q := 114) (v := (nI 1)) dX9_answers_113 rfl (by decide) ?_
          refine g_icmp_ne (q := 117) (t := 121) dX9_answers_114 rfl (by decide) (fun c_114 => ?_) (fun c_114 => ?_)
          · refine g_iconst (q := 122) (v := (nI 0)) dX9_answers_121 rfl (by decide) ?_
            refine g_lvs (lv1 := [(5, .int (nI (tA x + off))), (4, .int (nI (min sp (tW x - off)))), (0, .ref o), (1, .int (nI s)), (2, .int (nI (1115 + 480 * s + 15 * p)))]) ⟨rfl, rfl, rfl, rfl, rfl, trivial⟩ ?_
            refine g_eqi (v := tB (tR x)) (by first | exact tB_ne hxe.2.2.2.2.1 c_114 | exact tB_eq hxe.2.2.2.2.1 c_114) ?_
            exact J2
          · refine g_iconst (q := 118) (v := (nI 1)) dX9_answers_117 rfl (by decide) ?_
            refine g_goto (q := 122) dX9_answers_118 (by decide) ?_
            refine g_lvs (lv1 := [(5, .int (nI (tA x + off))), (4, .int (nI (min sp (tW x - off)))), (0, .ref o), (1, .int (nI s)), (2, .int (nI (1115 + 480 * s + 15 * p)))]) ⟨rfl, rfl, rfl, rfl, rfl, trivial⟩ ?_
            refine g_eqi (v := tB (tR x)) (by first | exact tB_ne hxe.2.2.2.2.1 c_114 | exact tB_eq hxe.2.2.2.2.1 c_114) ?_
            exact J2
        refine g_aload_n (q := 1) dX9_answers_0 rfl rfl ?_
        refine gb_getf (q := 4) (j := 0) (i := 0) dX9_answers_1 rfl fl_X9_7 hB rfl rfl rfl rfl ?_
        refine g_iload_n (q := 5) dX9_answers_4 rfl rfl ?_
        refine g_bipush (q := 7) (v := (nI 14)) dX9_answers_5 rfl (by decide) ?_
        refine g_iaddN (q := 8) dX9_answers_7 rfl ?_
        refine gb_ialdN (q := 9) (j := 0) (i := 1) dX9_answers_8 rfl hB rfl rfl rfl (by omega) (by decide) ?_
        refine g_eqi (v := nI (off)) (hxe.2.2.2.2.2.2.2 hk) ?_
        refine g_aload_n (q := 10) dX9_answers_9 rfl rfl ?_
        refine gb_getf (q := 13) (j := 0) (i := 0) dX9_answers_10 rfl fl_X9_7 hB rfl rfl rfl rfl ?_
        refine g_iload_n (q := 14) dX9_answers_13 rfl rfl ?_
        refine g_iconst (q := 15) (v := (nI 3)) dX9_answers_14 rfl (by decide) ?_
        refine g_iaddN (q := 16) dX9_answers_15 rfl ?_
        refine gb_ialdN (q := 17) (j := 0) (i := 1) dX9_answers_16 rfl hB rfl rfl rfl (by omega) (by decide) ?_
        refine g_eqi (v := nI (tW x)) (hxe.2.2.2.1) ?_
        refine g_icmpN_ge (q := 20) (t := 215) dX9_answers_17 rfl (by decide) (by omega) (by omega) (fun c => absurd c (by omega)) (fun _ => ?_)
        refine g_aload_n (q := 21) dX9_answers_20 rfl rfl ?_
        refine g_iload_n (q := 22) dX9_answers_21 rfl rfl ?_
        refine g_iconst (q := 23) (v := (nI 3)) dX9_answers_22 rfl (by decide) ?_
        refine gb_callV (q := 26) (j := 0) (i := 0) dX9_answers_23 rfl kv_X9_275 (c_mroom (A := va_up A 1 N) (P := (Q, P.2.1.set p (tK x, tT x, tR x, tA x, tW x, tM x, off, tV x), P.2.2)) (z := rm) hs (by decide) hrm hN (hB.1.at (j := 0) rfl)) rfl (by decide) hB rfl rfl rfl rfl (bz_le rfl) (by decide) (by decide) (fun r g1 hQ => ?_)
        obtain ⟨rfl, hg⟩ := hQ
        have hg := hg.symm
        subst hg
        refine g_eqi (v := nI (rm - s_cnt 3 Q)) (bz_subI hcq) ?_
        refine g_ifN_le (q := 29) (t := 215) dX9_answers_26 rfl (by decide) (by omega) (fun c => absurd c (by omega)) (fun _ => ?_)
        refine g_aload_n (q := 30) dX9_answers_29 rfl rfl ?_
        refine gb_getf (q := 33) (j := 0) (i := 0) dX9_answers_30 rfl fl_X9_7 hB rfl rfl rfl rfl ?_
        refine g_iload_n (q := 34) dX9_answers_33 rfl rfl ?_
        refine g_iconst (q := 35) (v := (nI 3)) dX9_answers_34 rfl (by decide) ?_
        refine g_iaddN (q := 36) dX9_answers_35 rfl ?_
        refine gb_ialdN (q := 37) (j := 0) (i := 1) dX9_answers_36 rfl hB rfl rfl rfl (by omega) (by decide) ?_
        refine g_eqi (v := nI (tW x)) (hxe.2.2.2.1) ?_
        refine g_aload_n (q := 38) dX9_answers_37 rfl rfl ?_
        refine gb_getf (q := 41) (j := 0) (i := 0) dX9_answers_38 rfl fl_X9_7 hB rfl rfl rfl rfl ?_
        refine g_iload_n (q := 42) dX9_answers_41 rfl rfl ?_
        refine g_bipush (q := 44) (v := (nI 14)) dX9_answers_42 rfl (by decide) ?_
        refine g_iaddN (q := 45) dX9_answers_44 rfl ?_
        refine gb_ialdN (q := 46) (j := 0) (i := 1) dX9_answers_45 rfl hB rfl rfl rfl (by omega) (by decide) ?_
        refine g_eqi (v := nI (off)) (hxe.2.2.2.2.2.2.2 hk) ?_
        refine g_isubN (q := 47) dX9_answers_46 rfl (by omega) ?_
        refine g_istore_n (q := 48) rfl dX9_answers_47 rfl (by decide) rfl ?_
        refine g_iload_n (q := 49) dX9_answers_48 rfl rfl ?_
        refine g_aload_n (q := 50) dX9_answers_49 rfl rfl ?_
        refine gb_getf (q := 53) (j := 0) (i := 0) dX9_answers_50 rfl fl_X9_25 hB rfl rfl rfl rfl ?_
        refine g_iconst (q := 54) (v := (nI 0)) dX9_answers_53 rfl (by decide) ?_
        refine gb_ialdN (q := 55) (j := 0) (i := 6) dX9_answers_54 rfl hB rfl rfl rfl (by omega) (by decide) ?_
        refine g_eqi (v := nI (sp)) (hsp0) ?_
        refine g_icmpN_ge (q := 58) (t := 62) dX9_answers_55 rfl (by decide) (by omega) (by omega) (fun c_55 => ?_) (fun c_55 => ?_)
        · refine g_aload_n (q := 63) dX9_answers_62 rfl rfl ?_
          refine gb_getf (q := 66) (j := 0) (i := 0) dX9_answers_63 rfl fl_X9_25 hB rfl rfl rfl rfl ?_
          refine g_iconst (q := 67) (v := (nI 0)) dX9_answers_66 rfl (by decide) ?_
          refine gb_ialdN (q := 68) (j := 0) (i := 6) dX9_answers_67 rfl hB rfl rfl rfl (by omega) (by decide) ?_
          refine g_eqi (v := nI (sp)) (hsp0) ?_
          refine g_lvs (lv1 := [(3, .int (nI (tW x - off))), (0, .ref o), (1, .int (nI s)), (2, .int (nI (1115 + 480 * s + 15 * p)))]) ⟨rfl, rfl, rfl, rfl, trivial⟩ ?_
          refine g_eqi (v := nI (min sp (tW x - off))) (by congr 1; omega) ?_
          exact J1
        · refine g_iload_n (q := 59) dX9_answers_58 rfl rfl ?_
          refine g_goto (q := 68) dX9_answers_59 (by decide) ?_
          refine g_lvs (lv1 := [(3, .int (nI (tW x - off))), (0, .ref o), (1, .int (nI s)), (2, .int (nI (1115 + 480 * s + 15 * p)))]) ⟨rfl, rfl, rfl, rfl, trivial⟩ ?_
          refine g_eqi (v := nI (min sp (tW x - off))) (by congr 1; omega) ?_
          exact J1
      ·
        refine g_aload_n (q := 1) dX9_answers_0 rfl rfl ?_
        refine gb_getf (q := 4) (j := 0) (i := 0) dX9_answers_1 rfl fl_X9_7 hB rfl rfl rfl rfl ?_
        refine g_iload_n (q := 5) dX9_answers_4 rfl rfl ?_
        refine g_bipush (q := 7) (v := (nI 14)) dX9_answers_5 rfl (by decide) ?_
        refine g_iaddN (q := 8) dX9_answers_7 rfl ?_
        refine gb_ialdN (q := 9) (j := 0) (i := 1) dX9_answers_8 rfl hB rfl rfl rfl (by omega) (by decide) ?_
        refine g_eqi (v := nI (off)) (hxe.2.2.2.2.2.2.2 hk) ?_
        refine g_aload_n (q := 10) dX9_answers_9 rfl rfl ?_
        refine gb_getf (q := 13) (j := 0) (i := 0) dX9_answers_10 rfl fl_X9_7 hB rfl rfl rfl rfl ?_
        refine g_iload_n (q := 14) dX9_answers_13 rfl rfl ?_
        refine g_iconst (q := 15) (v := (nI 3)) dX9_answers_14 rfl (by decide) ?_
        refine g_iaddN (q := 16) dX9_answers_15 rfl ?_
        refine gb_ialdN (q := 17) (j := 0) (i := 1) dX9_answers_16 rfl hB rfl rfl rfl (by omega) (by decide) ?_
        refine g_eqi (v := nI (tW x)) (hxe.2.2.2.1) ?_
        refine g_icmpN_ge (q := 20) (t := 215) dX9_answers_17 rfl (by decide) (by omega) (by omega) (fun c_17 => ?_) (fun c_17 => ?_)
        · refine g_lvs (lv1 := [(0, .ref o), (1, .int (nI s)), (2, .int (nI (1115 + 480 * s + 15 * p)))]) ⟨rfl, rfl, rfl, trivial⟩ ?_
          exact X Q off N mv _ hoff hN hcq (by rw [← hA, s_ans, if_neg hgo]) hlq hmv hag hB
        · refine g_aload_n (q := 21) dX9_answers_20 rfl rfl ?_
          refine g_iload_n (q := 22) dX9_answers_21 rfl rfl ?_
          refine g_iconst (q := 23) (v := (nI 3)) dX9_answers_22 rfl (by decide) ?_
          refine gb_callV (q := 26) (j := 0) (i := 0) dX9_answers_23 rfl kv_X9_275 (c_mroom (A := va_up A 1 N) (P := (Q, P.2.1.set p (tK x, tT x, tR x, tA x, tW x, tM x, off, tV x), P.2.2)) (z := rm) hs (by decide) hrm hN (hB.1.at (j := 0) rfl)) rfl (by decide) hB rfl rfl rfl rfl (bz_le rfl) (by decide) (by decide) (fun r g1 hQ => ?_)
          obtain ⟨rfl, hg⟩ := hQ
          have hg := hg.symm
          subst hg
          refine g_eqi (v := nI (rm - s_cnt 3 Q)) (bz_subI hcq) ?_
          refine g_ifN_le (q := 29) (t := 215) dX9_answers_26 rfl (by decide) (by omega) (fun c_26 => ?_) (fun c_26 => ?_)
          · refine g_lvs (lv1 := [(0, .ref o), (1, .int (nI s)), (2, .int (nI (1115 + 480 * s + 15 * p)))]) ⟨rfl, rfl, rfl, trivial⟩ ?_
            exact X Q off N mv _ hoff hN hcq (by rw [← hA, s_ans, if_neg hgo]) hlq hmv hag hB
          · exact absurd ⟨by omega, by omega⟩ hgo
  exact K 4 P.1 (tO x) (A 1) (I 24) g (by omega) hle0 (by rw [s_setoff hpx]; exact hP) hnow0 hcnt rfl (Nat.le_refl _) (by rw [if_pos rfl]) (fun j _ => rfl) hB
