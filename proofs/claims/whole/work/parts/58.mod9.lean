/-! the reference: forwards -/
theorem m_cp_ag {N : Nat → Int32} {d b i j : Nat} (h : ¬ (d ≤ j ∧ j < d + i)) : m_cp N d b i j = N j := by simp only [m_cp]; rw [if_neg h]
theorem m_cp_at {N : Nat → Int32} {d b i j : Nat} (h : j < i) : m_cp N d b i (d + j) = N (b + j) := by simp only [m_cp]; rw [if_pos ⟨by omega, by omega⟩]; congr 1; omega
theorem m_sd_hap {N N' : Nat → Int32} {s : Nat} {P : Po} {y : Tx} (hs : s < 2) (h : m_sd N s P) (hl : P.2.1.length < 32) (hy : m_hd N' (1115 + 480 * s + 15 * P.2.1.length) y) (hn : N' (3 + s) = nI (P.2.1.length + 1)) (hag : ∀ j, j ≠ 3 + s → ¬ (1115 + 480 * s + 15 * P.2.1.length ≤ j ∧ j < 1115 + 480 * s + 15 * P.2.1.length + 15) → N' j = N j) (hok : s_lok (P.2.1 ++ [y])) : m_sd N' s (P.1, P.2.1 ++ [y], P.2.2) := by
  obtain ⟨h1, h2, h3, h4, h5, h6, h7, h8, h9, h10, h11⟩ := h
  have l2 := h10.len
  refine ⟨(hag _ (by omega) (by omega)).trans h1, by rw [hn, List.length_append]; rfl, (hag _ (by omega) (by omega)).trans h3, (hag _ (by omega) (by omega)).trans h4, (hag _ (by omega) (by omega)).trans h5, fun i hi => (hag _ (by omega) (by omega)).trans (h6 i hi), m_tg_fr h7 (fun j a b => hag j (by omega) (by omega)), fun k x hx => ?_, fun k x hx => ?_, h10, hok⟩
  · have hl2 : k < P.1.length := (List.getElem?_eq_some_iff.mp hx).1
    exact m_wt_mv (h10.1 x (List.mem_of_getElem? hx)).2.2.2.2.2.2.1 (h8 k x hx) (fun j hj => hag _ (by omega) (by omega))
  · by_cases hk : k < P.2.1.length
    · rw [List.getElem?_append_left hk] at hx
      exact m_hd_mv (h11.1 x (List.mem_of_getElem? hx)).2.2.2.2.2.2.1 (h9 k x hx) (fun j hj => hag _ (by omega) (by omega))
    · rw [List.getElem?_append_right (by omega)] at hx
      have hz : k - P.2.1.length = 0 := by
        have := (List.getElem?_eq_some_iff.mp hx).1
        simp at this; omega
      rw [hz] at hx
      have e : y = x := by simpa using hx
      subst e
      rw [show k = P.2.1.length by omega]
      exact hy
theorem m_sd_ctr {N N' : Nat → Int32} {s a b c : Nat} {P : Po} (hs : s < 2) (h : m_sd N s P) (ha : N' (5 + s) = nI a) (hb : N' (7 + s) = nI b) (hc : N' (9 + s) = nI c) (hag : ∀ j, j ≠ 5 + s → j ≠ 7 + s → j ≠ 9 + s → N' j = N j) : m_sd N' s (P.1, P.2.1, P.2.2.1, P.2.2.2.1, a, b, c) := by
  obtain ⟨h1, h2, h3, h4, h5, h6, h7, h8, h9, h10, h11⟩ := h
  have l1 := h10.len
  have l2 := h11.len
  refine ⟨(hag _ (by omega) (by omega) (by omega)).trans h1, (hag _ (by omega) (by omega) (by omega)).trans h2, ha, hb, hc, fun i hi => (hag _ (by omega) (by omega) (by omega)).trans (h6 i hi), m_tg_fr h7 (fun j a b => hag j (by omega) (by omega) (by omega)), fun k x hx => ?_, fun k x hx => ?_, h10, h11⟩
  · exact m_wt_mv (h10.1 x (List.mem_of_getElem? hx)).2.2.2.2.2.2.1 (h8 k x hx) (fun j hj => hag _ (by omega) (by omega) (by omega))
  · exact m_hd_mv (h11.1 x (List.mem_of_getElem? hx)).2.2.2.2.2.2.1 (h9 k x hx) (fun j hj => hag _ (by omega) (by omega) (by omega))
theorem m_sd_wlv {N : Nat → Int32} {s p n : Nat} {P : Po} (hs : s < 2) (h : m_sd N s P) (hn : P.1.length = n) (hp : p < n) : m_sd (upd (m_lv N (155 + 480 * s + 15 * p) (155 + 480 * s + 15 * (n - 1))) (1 + s) (nI (n - 1))) s (P.1.eraseIdx p, P.2) := by
  obtain ⟨h1, h2, h3, h4, h5, h6, h7, h8, h9, h10, h11⟩ := h
  have l1 := h10.len
  have l2 := h11.len
  have hf : ∀ j, j ≠ 1 + s → ¬ (155 + 480 * s + 15 * p ≤ j ∧ j < 155 + 480 * s + 15 * (n - 1)) → upd (m_lv N (155 + 480 * s + 15 * p) (155 + 480 * s + 15 * (n - 1))) (1 + s) (nI (n - 1)) j = N j := fun j a b => (upd_ne a).trans (m_lv_ag b)
  refine ⟨by rw [upd_eq, List.length_eraseIdx, if_pos (by omega), hn], (hf _ (by omega) (by omega)).trans h2, (hf _ (by omega) (by omega)).trans h3, (hf _ (by omega) (by omega)).trans h4, (hf _ (by omega) (by omega)).trans h5, fun i hi => (hf _ (by omega) (by omega)).trans (h6 i hi), m_tg_fr h7 (fun j a b => hf j (by omega) (by omega)), fun k x hx => ?_, fun k x hx => ?_, s_lok_er h10, h11⟩
  · rw [List.getElem?_eraseIdx] at hx
    by_cases hk : k < p
    · rw [if_pos hk] at hx
      exact m_wt_mv (h10.1 x (List.mem_of_getElem? hx)).2.2.2.2.2.2.1 (h8 k x hx) (fun j hj => hf _ (by omega) (by omega))
    · rw [if_neg hk] at hx
      have hl2 : k + 1 < P.1.length := (List.getElem?_eq_some_iff.mp hx).1
      refine m_wt_mv (h10.1 x (List.mem_of_getElem? hx)).2.2.2.2.2.2.1 (h8 (k + 1) x hx) (fun j hj => ?_)
      rw [upd_ne (by omega)]
      simp only [m_lv]
      rw [if_pos ⟨by omega, by omega⟩]
      congr 1; omega
  · have hl2 : k < P.2.1.length := (List.getElem?_eq_some_iff.mp hx).1
    exact m_hd_mv (h11.1 x (List.mem_of_getElem? hx)).2.2.2.2.2.2.1 (h9 k x hx) (fun j hj => hf _ (by omega) (by omega))
/-- an entry laid over to the held ones -/
def m_f1 (N : Nat → Int32) (h e now lat : Nat) : Nat → Int32 := upd (upd (m_cp N h e 15) (h + 12) (nI now)) (h + 13) (nI lat)
theorem m_f1_ag {N : Nat → Int32} {h e now lat j : Nat} (hj : ¬ (h ≤ j ∧ j < h + 15)) : m_f1 N h e now lat j = N j := by
  unfold m_f1; rw [upd_ne (by omega), upd_ne (by omega), m_cp_ag hj]
theorem m_f1_hd {N N' : Nat → Int32} {h e now lat : Nat} {x : Tx} (hV : (tV x).length ≤ 4) (hx : m_wt N e x) (hl : lat ≤ 50) (hN : ∀ j, j < 15 → N' (h + j) = m_f1 N h e now lat (h + j)) : m_hd N' h (s_tm x (now + lat + 1)) := by
  have hf : ∀ j, j < 15 → j ≠ 12 → j ≠ 13 → N' (h + j) = N (e + j) := fun j hj a b => by
    rw [hN j hj]; unfold m_f1; rw [upd_ne (by omega), upd_ne (by omega), m_cp_at hj]
  obtain ⟨⟨h0, h1, h2, h3, h5, hw, h7, h8⟩, -⟩ := hx
  refine ⟨⟨(hf 0 (by omega) (by omega) (by omega)).trans h0, (hf 1 (by omega) (by omega) (by omega)).trans h1, (hf 2 (by omega) (by omega) (by omega)).trans h2, (hf 3 (by omega) (by omega) (by omega)).trans h3, (hf 5 (by omega) (by omega) (by omega)).trans h5, fun hk j v hj => ?_, fun hk => ⟨(hf 7 (by omega) (by omega) (by omega)).trans (h7 hk).1, fun j v hj => ?_⟩, fun hk => (hf 14 (by omega) (by omega) (by omega)).trans (h8 hk)⟩, now, lat, ?_, ?_, rfl, hl⟩
  · rw [hf 4 (by omega) (by omega) (by omega)]; exact hw hk j v hj
  · have hl2 := (List.getElem?_eq_some_iff.mp hj).1
    have hl3 : j < (tV x).length := hl2
    rw [show h + 8 + j = h + (8 + j) by omega, hf (8 + j) (by omega) (by omega) (by omega), ← Nat.add_assoc]
    exact (h7 hk).2 j v hj
  · rw [hN 12 (by omega)]; unfold m_f1; rw [upd_ne (by omega), upd_eq]
  · rw [hN 13 (by omega)]; unfold m_f1; rw [upd_eq]

set_option maxRecDepth 20000 in
set_option maxHeartbeats 1000000 in
theorem c_mforwards {l : Launch} {E : bz_E} {L : List Nat} {g : Nat → va_E} {o : Nat} {I : Nat → Int32} {A : Nat → Nat → Int32} {s now : Nat} {P P1 : Po} {tb cr : Nat → Nat} {l0 : List Int32} (hs : s < 2) (hP : m_sd (A 1) s P) (hP1 : m_sd (A 1) (1 - s) P1) (hc : ∀ k, k < 4 → A 3 (4 * (1 - s) + k) = nI (cr k) ∧ cr k ≤ 8) (ht : ∀ i, i < 16 → A 4 i = nI (tb i) ∧ tb i ≤ 1) (hnow0 : A 1 0 = nI now) (hnow : now < 90000) (hle : ∀ x ∈ P.1, tM x ≤ now) (hcs : A 7 (1 - s) = nI l0.length) (hl : l0.length ≤ 600) (hit : ∀ (j : Nat) (x : Int32), l0[j]? = some x → A 8 (620 * (1 - s) + j) = m_cd x) (hok : e_ok l0 0) (hH : bz_H L g o (b_Mod E o I A)) : bz_K l E mX9_forwards 3 [.ref o, .int (nI s)] L g (fun r g1 => r = none ∧ ∃ N1 F v : Nat → Int32, bz_B L g g1 [(o, b_Mod E o (va_up I 24 (if (s_fwd tb cr l0 now P P1).1 then nI 1 else I 24)) (va_up (va_up (va_up A 11 F) 10 v) 1 N1))] ∧ m_sd N1 s (s_fwd tb cr l0 now P P1).2.1 ∧ m_sd N1 (1 - s) (s_fwd tb cr l0 now P P1).2.2 ∧ N1 0 = nI now) := by
  refine bz_K.of (by decide) (bz_le rfl) (fun sz => ?_)
  show bz_G _ _ _ _ _ _ _ _ _ _ _ _ 0 [(0, .ref o), (1, .int (nI s))] []
  have hB := bz_B.rf (bz_W.one hH)
  have hL := hP.2.2.2.2.2.2.2.2.2.1.len
  cases hn : s_next tb cr P1.2.1 [] P.1 with
  | none =>
    have e1 : (s_fwd tb cr l0 now P P1) = (false, P, P1) := by unfold s_fwd; rw [hn]
    refine g_aload_n (q := 1) dX9_forwards_0 rfl rfl ?_
    refine g_iload_n (q := 2) dX9_forwards_1 rfl rfl ?_
    refine gb_callV (q := 5) (j := 0) (i := 0) dX9_forwards_2 rfl kv_X9_246 (c_mnextOf (P := P) (P1 := P1) (tb := tb) (cr := cr) hs hP hP1 hc ht (hB.1.at (j := 0) rfl)) rfl (by decide) hB rfl rfl rfl rfl (bz_le rfl) (by decide) (by decide) (fun r g1 hQ => ?_)
    obtain ⟨rfl, hg⟩ := hQ
    have hg := hg.symm
    subst hg
    refine g_eqi (v := -1) (by rw [hn]) ?_
    refine g_istore_n (q := 6) rfl dX9_forwards_5 rfl (by decide) rfl ?_
    refine g_iload_n (q := 7) dX9_forwards_6 rfl rfl ?_
    refine g_iconst (q := 8) (v := (-1)) dX9_forwards_7 rfl (by decide) ?_
    refine g_icmp_ne (q := 11) (t := 12) dX9_forwards_8 rfl (by decide) (fun c => absurd c (fun h => h rfl)) (fun _ => ?_)
    exact g_vret dX9_forwards_11 rfl (⟨rfl, A 1, A 11, A 10, by rw [e1]; exact hB, by rw [e1]; exact hP, by rw [e1]; exact hP1, hnow0⟩)
  | some k =>
    obtain ⟨x, hx0, hcr⟩ := s_next_spec _ _ _ hn
    rw [List.nil_append] at hx0
    have hk : k < P.1.length := (List.getElem?_eq_some_iff.mp hx0).1
    have hmem := List.mem_of_getElem? hx0
    have hxo := hP.2.2.2.2.2.2.2.2.2.1.1 x hmem
    have hx := hP.2.2.2.2.2.2.2.1 k x hx0
    have hxl := hle x hmem
    have hcr8 := (hc (tK x) hxo.1).2
    have hl1 : P1.2.1.length < 32 := hP1.2.2.2.2.2.2.2.2.2.2.lt hxo.1 (by omega)
    have e1 : (s_fwd tb cr l0 now P P1) = (true, (P.1.eraseIdx k, P.2.1, P.2.2.1, P.2.2.2.1, P.2.2.2.2.1 + 1, P.2.2.2.2.2.1 + k, (P.2.2.2.2.2.2 + (now - tM x))), (P1.1, P1.2.1 ++ [s_tm x (now + (s_lat l0 x now) + 1)], P1.2.2)) := by unfold s_fwd; rw [hn]; dsimp only; rw [hx0]
    have hlat : (s_lat l0 x now) ≤ 50 := s_cl_le _
    have hb0 : (upd (m_cp (A 1) (1115 + 480 * (1 - s) + 15 * P1.2.1.length) (155 + 480 * s + 15 * k) 15) ((1115 + 480 * (1 - s) + 15 * P1.2.1.length) + 12) (nI now)) ((1115 + 480 * (1 - s) + 15 * P1.2.1.length) + 0) = nI (tK x) := (upd_ne (by omega)).trans ((m_cp_at (by omega)).trans hx.1.1)
    have hb2 : (upd (m_cp (A 1) (1115 + 480 * (1 - s) + 15 * P1.2.1.length) (155 + 480 * s + 15 * k) 15) ((1115 + 480 * (1 - s) + 15 * P1.2.1.length) + 12) (nI now)) ((1115 + 480 * (1 - s) + 15 * P1.2.1.length) + 2) = nI (tA x) := (upd_ne (by omega)).trans ((m_cp_at (by omega)).trans hx.1.2.2.1)
    have hb3 : (upd (m_cp (A 1) (1115 + 480 * (1 - s) + 15 * P1.2.1.length) (155 + 480 * s + 15 * k) 15) ((1115 + 480 * (1 - s) + 15 * P1.2.1.length) + 12) (nI now)) ((1115 + 480 * (1 - s) + 15 * P1.2.1.length) + 3) = nI (tW x) := (upd_ne (by omega)).trans ((m_cp_at (by omega)).trans hx.1.2.2.2.1)
    have hb00 : (upd (m_cp (A 1) (1115 + 480 * (1 - s) + 15 * P1.2.1.length) (155 + 480 * s + 15 * k) 15) ((1115 + 480 * (1 - s) + 15 * P1.2.1.length) + 12) (nI now)) 0 = nI now := (upd_ne (by omega)).trans ((m_cp_ag (by omega)).trans hnow0)
    have hT1 : m_sd (upd (m_f1 (A 1) (1115 + 480 * (1 - s) + 15 * P1.2.1.length) (155 + 480 * s + 15 * k) now (s_lat l0 x now)) (3 + (1 - s)) (nI (P1.2.1.length + 1))) (1 - s) (P1.1, P1.2.1 ++ [s_tm x (now + (s_lat l0 x now) + 1)], P1.2.2) := by
      refine m_sd_hap (by omega) hP1 hl1 (m_f1_hd (N := A 1) (e := (155 + 480 * s + 15 * k)) hxo.2.2.2.2.2.2.1 hx hlat (fun j hj => upd_ne (by omega))) upd_eq (fun j a b => (upd_ne a).trans (m_f1_ag b)) (hP1.2.2.2.2.2.2.2.2.2.2.app (s_tm_ok hxo (by omega)) (show s_cnt (tK x) P1.2.1 < 8 by omega))
    have hS1 : m_sd (upd (m_f1 (A 1) (1115 + 480 * (1 - s) + 15 * P1.2.1.length) (155 + 480 * s + 15 * k) now (s_lat l0 x now)) (3 + (1 - s)) (nI (P1.2.1.length + 1))) s P := m_sd_fr hP (fun j hj => by unfold m_rg at hj; rw [upd_ne (by omega), m_f1_ag (by omega)])
    have hS2 : m_sd (upd (upd (upd (upd (m_f1 (A 1) (1115 + 480 * (1 - s) + 15 * P1.2.1.length) (155 + 480 * s + 15 * k) now (s_lat l0 x now)) (3 + (1 - s)) (nI (P1.2.1.length + 1))) (5 + s) (nI (P.2.2.2.2.1 + 1))) (7 + s) (nI (P.2.2.2.2.2.1 + k))) (9 + s) (nI (P.2.2.2.2.2.2 + (now - tM x)))) s (P.1, P.2.1, P.2.2.1, P.2.2.2.1, P.2.2.2.2.1 + 1, P.2.2.2.2.2.1 + k, (P.2.2.2.2.2.2 + (now - tM x))) := m_sd_ctr hs hS1 (by rw [upd_ne (by omega), upd_ne (by omega), upd_eq]) (by rw [upd_ne (by omega), upd_eq]) upd_eq (fun j a b c => by rw [upd_ne c, upd_ne b, upd_ne a])
    have hT2 : m_sd (upd (upd (upd (upd (m_f1 (A 1) (1115 + 480 * (1 - s) + 15 * P1.2.1.length) (155 + 480 * s + 15 * k) now (s_lat l0 x now)) (3 + (1 - s)) (nI (P1.2.1.length + 1))) (5 + s) (nI (P.2.2.2.2.1 + 1))) (7 + s) (nI (P.2.2.2.2.2.1 + k))) (9 + s) (nI (P.2.2.2.2.2.2 + (now - tM x)))) (1 - s) _ := m_sd_fr hT1 (fun j hj => by unfold m_rg at hj; rw [upd_ne (by omega), upd_ne (by omega), upd_ne (by omega)])
    have hS3 := m_sd_wlv (p := k) (n := P.1.length) hs hS2 rfl hk
    have hT3 : m_sd (upd (m_lv (upd (upd (upd (upd (m_f1 (A 1) (1115 + 480 * (1 - s) + 15 * P1.2.1.length) (155 + 480 * s + 15 * k) now (s_lat l0 x now)) (3 + (1 - s)) (nI (P1.2.1.length + 1))) (5 + s) (nI (P.2.2.2.2.1 + 1))) (7 + s) (nI (P.2.2.2.2.2.1 + k))) (9 + s) (nI (P.2.2.2.2.2.2 + (now - tM x)))) (155 + 480 * s + 15 * k) (155 + 480 * s + 15 * (P.1.length - 1))) (1 + s) (nI (P.1.length - 1))) (1 - s) _ := m_sd_fr hT2 (fun j hj => by unfold m_rg at hj; rw [upd_ne (by omega), m_lv_ag (by omega)])
    have K : ∀ (m i : Nat) (g1 : Nat → va_E), i + m = 15 → bz_B L g g1 [(o, (b_Mod E o I (va_up A 1 (m_cp (A 1) (1115 + 480 * (1 - s) + 15 * P1.2.1.length) (155 + 480 * s + 15 * k) i))))] → bz_G l E mX9_forwards (bz_R 3 0 0) L sz (bz_Fm E L sz (fun r g1 => r = none ∧ ∃ N1 F v : Nat → Int32, bz_B L g g1 [(o, b_Mod E o (va_up I 24 (if (s_fwd tb cr l0 now P P1).1 then nI 1 else I 24)) (va_up (va_up (va_up A 11 F) 10 v) 1 N1))] ∧ m_sd N1 s (s_fwd tb cr l0 now P P1).2.1 ∧ m_sd N1 (1 - s) (s_fwd tb cr l0 now P P1).2.2 ∧ N1 0 = nI now)) sz 0 0 L g1 40 [(6, .int (nI i)), (5, .int (nI (1115 + 480 * (1 - s) + 15 * P1.2.1.length))), (4, .int (nI (155 + 480 * s + 15 * k))), (3, .int (nI (1 - s))), (2, .int (nI k)), (0, .ref o), (1, .int (nI s))] [] := by
      intro m
      induction m with
      | zero =>
        intro i g2 hi hB
        have hi2 : i = 15 := by omega
        subst hi2
        refine g_iload (q := 42) dX9_forwards_40 rfl rfl ?_
        refine g_bipush (q := 44) (v := (nI 15)) dX9_forwards_42 rfl (by decide) ?_
        refine g_icmpN_ge (q := 47) (t := 73) dX9_forwards_44 rfl (by decide) (by omega) (by omega) (fun _ => ?_) (fun c => absurd c (by omega))
        refine g_aload_n (q := 74) dX9_forwards_73 rfl rfl ?_
        refine gb_getf (q := 77) (j := 0) (i := 0) dX9_forwards_74 rfl fl_X9_7 hB rfl rfl rfl rfl ?_
        refine g_iload (q := 79) dX9_forwards_77 rfl rfl ?_
        refine g_bipush (q := 81) (v := (nI 12)) dX9_forwards_79 rfl (by decide) ?_
        refine g_iaddN (q := 82) dX9_forwards_81 rfl ?_
        refine g_aload_n (q := 83) dX9_forwards_82 rfl rfl ?_
        refine gb_getf (q := 86) (j := 0) (i := 0) dX9_forwards_83 rfl fl_X9_7 hB rfl rfl rfl rfl ?_
        refine g_iconst (q := 87) (v := (nI 0)) dX9_forwards_86 rfl (by decide) ?_
        refine gb_ialdN (q := 88) (j := 0) (i := 1) dX9_forwards_87 rfl hB rfl rfl rfl (by omega) (by decide) ?_
        refine g_eqi (v := nI (now)) ((m_cp_ag (by omega)).trans hnow0) ?_
        refine gb_iastN (q := 89) (j := 0) (i := 1) dX9_forwards_88 rfl hB rfl rfl rfl (by omega) (by decide) (fun g hB => ?_)
        refine g_aload_n (q := 90) dX9_forwards_89 rfl rfl ?_
        refine gb_getf (q := 93) (j := 0) (i := 0) dX9_forwards_90 rfl fl_X9_7 hB rfl rfl rfl rfl ?_
        refine g_iload (q := 95) dX9_forwards_93 rfl rfl ?_
        refine g_bipush (q := 97) (v := (nI 13)) dX9_forwards_95 rfl (by decide) ?_
        refine g_iaddN (q := 98) dX9_forwards_97 rfl ?_
        refine g_aload_n (q := 99) dX9_forwards_98 rfl rfl ?_
        refine g_iload_n (q := 100) dX9_forwards_99 rfl rfl ?_
        refine g_iload (q := 102) dX9_forwards_100 rfl rfl ?_
        refine gb_callV (q := 105) (j := 0) (i := 0) dX9_forwards_102 rfl kv_X9_296 (c_mlatencyOf (A := va_up A 1 (upd (m_cp (A 1) (1115 + 480 * (1 - s) + 15 * P1.2.1.length) (155 + 480 * s + 15 * k) 15) ((1115 + 480 * (1 - s) + 15 * P1.2.1.length) + 12) (nI now))) (l0 := l0) (by omega) (by omega) hcs hl hit hok (hB.1.at (j := 0) rfl)) rfl (by decide) hB rfl rfl rfl rfl (bz_le rfl) (by decide) (by decide) (fun r g1 hQ => ?_)
        obtain ⟨rfl, F, v, h1⟩ := hQ
        have hB := hB.sp (j := 0) rfl 0 rfl h1 (bz_le rfl)
        refine g_eqi (v := nI ((s_lat l0 x now))) (by show nI (s_cl (e_val l0 ((upd (m_cp (A 1) (1115 + 480 * (1 - s) + 15 * P1.2.1.length) (155 + 480 * s + 15 * k) 15) ((1115 + 480 * (1 - s) + 15 * P1.2.1.length) + 12) (nI now)) ((1115 + 480 * (1 - s) + 15 * P1.2.1.length) + 0)) ((upd (m_cp (A 1) (1115 + 480 * (1 - s) + 15 * P1.2.1.length) (155 + 480 * s + 15 * k) 15) ((1115 + 480 * (1 - s) + 15 * P1.2.1.length) + 12) (nI now)) ((1115 + 480 * (1 - s) + 15 * P1.2.1.length) + 2)) ((upd (m_cp (A 1) (1115 + 480 * (1 - s) + 15 * P1.2.1.length) (155 + 480 * s + 15 * k) 15) ((1115 + 480 * (1 - s) + 15 * P1.2.1.length) + 12) (nI now)) ((1115 + 480 * (1 - s) + 15 * P1.2.1.length) + 3)) ((upd (m_cp (A 1) (1115 + 480 * (1 - s) + 15 * P1.2.1.length) (155 + 480 * s + 15 * k) 15) ((1115 + 480 * (1 - s) + 15 * P1.2.1.length) + 12) (nI now)) 0))) = _; rw [hb0, hb2, hb3, hb00]; rfl) ?_
        refine gb_iastN (q := 106) (j := 0) (i := 1) dX9_forwards_105 rfl hB rfl rfl rfl (by omega) (by decide) (fun g hB => ?_)
        refine g_aload_n (q := 107) dX9_forwards_106 rfl rfl ?_
        refine gb_getf (q := 110) (j := 0) (i := 0) dX9_forwards_107 rfl fl_X9_7 hB rfl rfl rfl rfl ?_
        refine g_iconst (q := 111) (v := (nI 3)) dX9_forwards_110 rfl (by decide) ?_
        refine g_iload_n (q := 112) dX9_forwards_111 rfl rfl ?_
        refine g_iaddN (q := 113) dX9_forwards_112 rfl ?_
        refine g_dup2 (q := 114) dX9_forwards_113 rfl rfl rfl ?_
        refine gb_ialdN (q := 115) (j := 0) (i := 1) dX9_forwards_114 rfl hB rfl rfl rfl (by omega) (by decide) ?_
        refine g_eqi (v := nI (P1.2.1.length)) ((m_f1_ag (by omega)).trans (hP1.2.1)) ?_
        refine g_iconst (q := 116) (v := (nI 1)) dX9_forwards_115 rfl (by decide) ?_
        refine g_iaddN (q := 117) dX9_forwards_116 rfl ?_
        refine gb_iastN (q := 118) (j := 0) (i := 1) dX9_forwards_117 rfl hB rfl rfl rfl (by omega) (by decide) (fun g hB => ?_)
        refine g_aload_n (q := 119) dX9_forwards_118 rfl rfl ?_
        refine gb_getf (q := 122) (j := 0) (i := 0) dX9_forwards_119 rfl fl_X9_7 hB rfl rfl rfl rfl ?_
        refine g_iconst (q := 123) (v := (nI 5)) dX9_forwards_122 rfl (by decide) ?_
        refine g_iload_n (q := 124) dX9_forwards_123 rfl rfl ?_
        refine g_iaddN (q := 125) dX9_forwards_124 rfl ?_
        refine g_dup2 (q := 126) dX9_forwards_125 rfl rfl rfl ?_
        refine gb_ialdN (q := 127) (j := 0) (i := 1) dX9_forwards_126 rfl hB rfl rfl rfl (by omega) (by decide) ?_
        refine g_eqi (v := nI (P.2.2.2.2.1)) ((upd_ne (by omega)).trans ((m_f1_ag (by omega)).trans (hP.2.2.1))) ?_
        refine g_iconst (q := 128) (v := (nI 1)) dX9_forwards_127 rfl (by decide) ?_
        refine g_iaddN (q := 129) dX9_forwards_128 rfl ?_
        refine gb_iastN (q := 130) (j := 0) (i := 1) dX9_forwards_129 rfl hB rfl rfl rfl (by omega) (by decide) (fun g hB => ?_)
        refine g_aload_n (q := 131) dX9_forwards_130 rfl rfl ?_
        refine gb_getf (q := 134) (j := 0) (i := 0) dX9_forwards_131 rfl fl_X9_7 hB rfl rfl rfl rfl ?_
        refine g_bipush (q := 136) (v := (nI 7)) dX9_forwards_134 rfl (by decide) ?_
        refine g_iload_n (q := 137) dX9_forwards_136 rfl rfl ?_
        refine g_iaddN (q := 138) dX9_forwards_137 rfl ?_
        refine g_dup2 (q := 139) dX9_forwards_138 rfl rfl rfl ?_
        refine gb_ialdN (q := 140) (j := 0) (i := 1) dX9_forwards_139 rfl hB rfl rfl rfl (by omega) (by decide) ?_
        refine g_eqi (v := nI (P.2.2.2.2.2.1)) ((upd_ne (by omega)).trans ((upd_ne (by omega)).trans ((m_f1_ag (by omega)).trans (hP.2.2.2.1)))) ?_
        refine g_iload_n (q := 141) dX9_forwards_140 rfl rfl ?_
        refine g_iaddN (q := 142) dX9_forwards_141 rfl ?_
        refine gb_iastN (q := 143) (j := 0) (i := 1) dX9_forwards_142 rfl hB rfl rfl rfl (by omega) (by decide) (fun g hB => ?_)
        refine g_aload_n (q := 144) dX9_forwards_143 rfl rfl ?_
        refine gb_getf (q := 147) (j := 0) (i := 0) dX9_forwards_144 rfl fl_X9_7 hB rfl rfl rfl rfl ?_
        refine g_bipush (q := 149) (v := (nI 9)) dX9_forwards_147 rfl (by decide) ?_
        refine g_iload_n (q := 150) dX9_forwards_149 rfl rfl ?_
        refine g_iaddN (q := 151) dX9_forwards_150 rfl ?_
        refine g_dup2 (q := 152) dX9_forwards_151 rfl rfl rfl ?_
        refine gb_ialdN (q := 153) (j := 0) (i := 1) dX9_forwards_152 rfl hB rfl rfl rfl (by omega) (by decide) ?_
        refine g_eqi (v := nI (P.2.2.2.2.2.2)) ((upd_ne (by omega)).trans ((upd_ne (by omega)).trans ((upd_ne (by omega)).trans ((m_f1_ag (by omega)).trans (hP.2.2.2.2.1))))) ?_
        refine g_aload_n (q := 154) dX9_forwards_153 rfl rfl ?_
        refine gb_getf (q := 157) (j := 0) (i := 0) dX9_forwards_154 rfl fl_X9_7 hB rfl rfl rfl rfl ?_
        refine g_iconst (q := 158) (v := (nI 0)) dX9_forwards_157 rfl (by decide) ?_
        refine gb_ialdN (q := 159) (j := 0) (i := 1) dX9_forwards_158 rfl hB rfl rfl rfl (by omega) (by decide) ?_
        refine g_eqi (v := nI (now)) ((upd_ne (by omega)).trans ((upd_ne (by omega)).trans ((upd_ne (by omega)).trans ((m_f1_ag (by omega)).trans (hnow0))))) ?_
        refine g_aload_n (q := 160) dX9_forwards_159 rfl rfl ?_
        refine gb_getf (q := 163) (j := 0) (i := 0) dX9_forwards_160 rfl fl_X9_7 hB rfl rfl rfl rfl ?_
        refine g_iload (q := 165) dX9_forwards_163 rfl rfl ?_
        refine g_bipush (q := 167) (v := (nI 6)) dX9_forwards_165 rfl (by decide) ?_
        refine g_iaddN (q := 168) dX9_forwards_167 rfl ?_
        refine gb_ialdN (q := 169) (j := 0) (i := 1) dX9_forwards_168 rfl hB rfl rfl rfl (by omega) (by decide) ?_
        refine g_eqi (v := nI (tM x)) ((upd_ne (by omega)).trans ((upd_ne (by omega)).trans ((upd_ne (by omega)).trans ((m_f1_ag (by omega)).trans (hx.2))))) ?_
        refine g_isubN (q := 170) dX9_forwards_169 rfl (by omega) ?_
        refine g_iaddN (q := 171) dX9_forwards_170 rfl ?_
        refine gb_iastN (q := 172) (j := 0) (i := 1) dX9_forwards_171 rfl hB rfl rfl rfl (by omega) (by decide) (fun g hB => ?_)
        refine g_aload_n (q := 173) dX9_forwards_172 rfl rfl ?_
        refine g_iload_n (q := 174) dX9_forwards_173 rfl rfl ?_
        refine g_iconst (q := 175) (v := (nI 0)) dX9_forwards_174 rfl (by decide) ?_
        refine g_callS (q := 178) dX9_forwards_175 rfl ks_X9_233 rfl (c_waits (s := s) (k := 0)) (by decide) rfl (bz_le rfl) (by decide) (by decide) (fun r g1 hQ => ?_)
        obtain ⟨rfl, hg⟩ := hQ
        have hg := hg.symm
        subst hg
        refine g_iload_n (q := 179) dX9_forwards_178 rfl rfl ?_
        refine g_aload_n (q := 180) dX9_forwards_179 rfl rfl ?_
        refine gb_getf (q := 183) (j := 0) (i := 0) dX9_forwards_180 rfl fl_X9_7 hB rfl rfl rfl rfl ?_
        refine g_iconst (q := 184) (v := (nI 1)) dX9_forwards_183 rfl (by decide) ?_
        refine g_iload_n (q := 185) dX9_forwards_184 rfl rfl ?_
        refine g_iaddN (q := 186) dX9_forwards_185 rfl ?_
        refine gb_ialdN (q := 187) (j := 0) (i := 1) dX9_forwards_186 rfl hB rfl rfl rfl (by omega) (by decide) ?_
        refine g_eqi (v := nI (P.1.length)) ((upd_ne (by omega)).trans ((upd_ne (by omega)).trans ((upd_ne (by omega)).trans ((upd_ne (by omega)).trans ((m_f1_ag (by omega)).trans (hP.1)))))) ?_
        refine gb_callV (q := 190) (j := 0) (i := 0) dX9_forwards_187 rfl kv_X9_292 (c_mleaves (I := I) (A := va_up (va_up (va_up A 11 F) 10 v) 1 (upd (upd (upd (upd (m_f1 (A 1) (1115 + 480 * (1 - s) + 15 * P1.2.1.length) (155 + 480 * s + 15 * k) now (s_lat l0 x now)) (3 + (1 - s)) (nI (P1.2.1.length + 1))) (5 + s) (nI (P.2.2.2.2.1 + 1))) (7 + s) (nI (P.2.2.2.2.2.1 + k))) (9 + s) (nI (P.2.2.2.2.2.2 + (now - tM x))))) (k := k) (n := P.1.length) hk (by omega) (hB.1.at (j := 0) rfl)) rfl (by decide) hB rfl rfl rfl rfl (bz_le rfl) (by decide) (by decide) (fun r g1 hQ => ?_)
        obtain ⟨rfl, h1⟩ := hQ
        have hB := hB.sp (j := 0) rfl 0 rfl h1 (bz_le rfl)
        refine g_aload_n (q := 191) dX9_forwards_190 rfl rfl ?_
        refine gb_getf (q := 194) (j := 0) (i := 0) dX9_forwards_191 rfl fl_X9_7 hB rfl rfl rfl rfl ?_
        refine g_iconst (q := 195) (v := (nI 1)) dX9_forwards_194 rfl (by decide) ?_
        refine g_iload_n (q := 196) dX9_forwards_195 rfl rfl ?_
        refine g_iaddN (q := 197) dX9_forwards_196 rfl ?_
        refine g_dup2 (q := 198) dX9_forwards_197 rfl rfl rfl ?_
        refine gb_ialdN (q := 199) (j := 0) (i := 1) dX9_forwards_198 rfl hB rfl rfl rfl (by omega) (by decide) ?_
        refine g_eqi (v := nI (P.1.length)) ((m_lv_ag (by omega)).trans ((upd_ne (by omega)).trans ((upd_ne (by omega)).trans ((upd_ne (by omega)).trans ((upd_ne (by omega)).trans ((m_f1_ag (by omega)).trans (hP.1))))))) ?_
        refine g_iconst (q := 200) (v := (nI 1)) dX9_forwards_199 rfl (by decide) ?_
        refine g_isubN (q := 201) dX9_forwards_200 rfl (by omega) ?_
        refine gb_iastN (q := 202) (j := 0) (i := 1) dX9_forwards_201 rfl hB rfl rfl rfl (by omega) (by decide) (fun g hB => ?_)
        refine g_aload_n (q := 203) dX9_forwards_202 rfl rfl ?_
        refine g_iconst (q := 204) (v := (nI 1)) dX9_forwards_203 rfl (by decide) ?_
        refine gb_putf (q := 207) (j := 0) (i := 0) dX9_forwards_204 rfl fp_X9_285 hB rfl rfl rfl (bz_le rfl) rfl rfl (fun g hB => ?_)
        exact g_vret dX9_forwards_207 rfl (⟨rfl, (upd (m_lv (upd (upd (upd (upd (m_f1 (A 1) (1115 + 480 * (1 - s) + 15 * P1.2.1.length) (155 + 480 * s + 15 * k) now (s_lat l0 x now)) (3 + (1 - s)) (nI (P1.2.1.length + 1))) (5 + s) (nI (P.2.2.2.2.1 + 1))) (7 + s) (nI (P.2.2.2.2.2.1 + k))) (9 + s) (nI (P.2.2.2.2.2.2 + (now - tM x)))) (155 + 480 * s + 15 * k) (155 + 480 * s + 15 * (P.1.length - 1))) (1 + s) (nI (P.1.length - 1))), F, v, by rw [e1]; exact hB, by rw [e1]; exact hS3, by rw [e1]; exact hT3, by rw [upd_ne (by omega), m_lv_ag (by omega), upd_ne (by omega), upd_ne (by omega), upd_ne (by omega), upd_ne (by omega), m_f1_ag (by omega)]; exact hnow0⟩)
      | succ m ih =>
        intro i g2 hi hB
        refine g_iload (q := 42) dX9_forwards_40 rfl rfl ?_
        refine g_bipush (q := 44) (v := (nI 15)) dX9_forwards_42 rfl (by decide) ?_
        refine g_icmpN_ge (q := 47) (t := 73) dX9_forwards_44 rfl (by decide) (by omega) (by omega) (fun c => absurd c (by omega)) (fun _ => ?_)
        refine g_aload_n (q := 48) dX9_forwards_47 rfl rfl ?_
        refine gb_getf (q := 51) (j := 0) (i := 0) dX9_forwards_48 rfl fl_X9_7 hB rfl rfl rfl rfl ?_
        refine g_iload (q := 53) dX9_forwards_51 rfl rfl ?_
        refine g_iload (q := 55) dX9_forwards_53 rfl rfl ?_
        refine g_iaddN (q := 56) dX9_forwards_55 rfl ?_
        refine g_aload_n (q := 57) dX9_forwards_56 rfl rfl ?_
        refine gb_getf (q := 60) (j := 0) (i := 0) dX9_forwards_57 rfl fl_X9_7 hB rfl rfl rfl rfl ?_
        refine g_iload (q := 62) dX9_forwards_60 rfl rfl ?_
        refine g_iload (q := 64) dX9_forwards_62 rfl rfl ?_
        refine g_iaddN (q := 65) dX9_forwards_64 rfl ?_
        refine gb_ialdN (q := 66) (j := 0) (i := 1) dX9_forwards_65 rfl hB rfl rfl rfl (by omega) (by decide) ?_
        refine gb_iastN (q := 67) (j := 0) (i := 1) dX9_forwards_66 rfl hB rfl rfl rfl (by omega) (by decide) (fun g hB => ?_)
        refine g_iincN (q := 70) (c := 1) dX9_forwards_67 rfl (by decide) rfl rfl (by decide) ?_
        refine g_goto (q := 40) dX9_forwards_70 (by decide) ?_
        refine g_lvs (lv1 := [(6, .int (nI (i + 1))), (5, .int (nI (1115 + 480 * (1 - s) + 15 * P1.2.1.length))), (4, .int (nI (155 + 480 * s + 15 * k))), (3, .int (nI (1 - s))), (2, .int (nI k)), (0, .ref o), (1, .int (nI s))]) ⟨rfl, rfl, rfl, rfl, rfl, rfl, rfl, trivial⟩ ?_
        refine ih (i + 1) _ (by omega) ?_
        rw [← m_cpS (by omega)]
        exact hB
    refine g_aload_n (q := 1) dX9_forwards_0 rfl rfl ?_
    refine g_iload_n (q := 2) dX9_forwards_1 rfl rfl ?_
    refine gb_callV (q := 5) (j := 0) (i := 0) dX9_forwards_2 rfl kv_X9_246 (c_mnextOf (P := P) (P1 := P1) (tb := tb) (cr := cr) hs hP hP1 hc ht (hB.1.at (j := 0) rfl)) rfl (by decide) hB rfl rfl rfl rfl (bz_le rfl) (by decide) (by decide) (fun r g1 hQ => ?_)
    obtain ⟨rfl, hg⟩ := hQ
    have hg := hg.symm
    subst hg
    refine g_eqi (v := nI (k)) (by rw [hn]) ?_
    refine g_istore_n (q := 6) rfl dX9_forwards_5 rfl (by decide) rfl ?_
    refine g_iload_n (q := 7) dX9_forwards_6 rfl rfl ?_
    refine g_iconst (q := 8) (v := (-1)) dX9_forwards_7 rfl (by decide) ?_
    refine g_icmp_ne (q := 11) (t := 12) dX9_forwards_8 rfl (by decide) (fun _ => ?_) (fun c => absurd c (nI_nm _ (by omega)))
    refine g_iconst (q := 13) (v := (nI 1)) dX9_forwards_12 rfl (by decide) ?_
    refine g_iload_n (q := 14) dX9_forwards_13 rfl rfl ?_
    refine g_isubN (q := 15) dX9_forwards_14 rfl (by omega) ?_
    refine g_istore_n (q := 16) rfl dX9_forwards_15 rfl (by decide) rfl ?_
    refine g_iload_n (q := 17) dX9_forwards_16 rfl rfl ?_
    refine g_iload_n (q := 18) dX9_forwards_17 rfl rfl ?_
    refine g_callS (q := 21) dX9_forwards_18 rfl ks_X9_233 rfl (c_waits (s := s) (k := k)) (by decide) rfl (bz_le rfl) (by decide) (by decide) (fun r g1 hQ => ?_)
    obtain ⟨rfl, hg⟩ := hQ
    have hg := hg.symm
    subst hg
    refine g_istore (q := 23) dX9_forwards_21 rfl (by decide) rfl ?_
    refine g_iload_n (q := 24) dX9_forwards_23 rfl rfl ?_
    refine g_aload_n (q := 25) dX9_forwards_24 rfl rfl ?_
    refine gb_getf (q := 28) (j := 0) (i := 0) dX9_forwards_25 rfl fl_X9_7 hB rfl rfl rfl rfl ?_
    refine g_iconst (q := 29) (v := (nI 3)) dX9_forwards_28 rfl (by decide) ?_
    refine g_iload_n (q := 30) dX9_forwards_29 rfl rfl ?_
    refine g_iaddN (q := 31) dX9_forwards_30 rfl ?_
    refine gb_ialdN (q := 32) (j := 0) (i := 1) dX9_forwards_31 rfl hB rfl rfl rfl (by omega) (by decide) ?_
    refine g_eqi (v := nI (P1.2.1.length)) (hP1.2.1) ?_
    refine g_callS (q := 35) dX9_forwards_32 rfl ks_X9_240 rfl (c_held0 (s := 1 - s) (k := P1.2.1.length)) (by decide) rfl (bz_le rfl) (by decide) (by decide) (fun r g1 hQ => ?_)
    obtain ⟨rfl, hg⟩ := hQ
    have hg := hg.symm
    subst hg
    refine g_istore (q := 37) dX9_forwards_35 rfl (by decide) rfl ?_
    refine g_iconst (q := 38) (v := (nI 0)) dX9_forwards_37 rfl (by decide) ?_
    refine g_istore (q := 40) dX9_forwards_38 rfl (by decide) rfl ?_
    refine g_lvs (lv1 := [(6, .int (nI 0)), (5, .int (nI (1115 + 480 * (1 - s) + 15 * P1.2.1.length))), (4, .int (nI (155 + 480 * s + 15 * k))), (3, .int (nI (1 - s))), (2, .int (nI k)), (0, .ref o), (1, .int (nI s))]) ⟨rfl, rfl, rfl, rfl, rfl, rfl, rfl, trivial⟩ ?_
    exact K 15 0 _ (by omega) (by rw [m_cp0]; exact hB)
