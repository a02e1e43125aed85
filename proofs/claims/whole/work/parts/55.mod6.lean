/-! the reference: works, targets -/
theorem m_cm_7 {N : Nat → Int32} {s n : Nat} {k tag ad wd rel : Int32} (hs : s < 2) : m_cm N s n k tag ad wd rel (155 + 480 * s + 15 * n + 7) = nI 0 := by
  unfold m_cm
  rw [upd_ne (by omega), upd_ne (by omega), upd_ne (by omega), upd_ne (by omega), upd_ne (by omega), upd_ne (by omega), upd_ne (by omega)]
  simp only [v_z]
  rw [if_pos ⟨by omega, by omega⟩]
theorem m_sd_wr {N : Nat → Int32} {s ad wd : Nat} {v : Int32} {P : Po} {vs : List Int32} (hs : s < 2) (h : m_sd N s P) (hl : vs.length = wd) (ha : ad + wd ≤ 16) (hv : ∀ (j : Nat) (y : Int32), vs[j]? = some y → v + nI j = y) : m_sd (m_wr N (11 + 16 * s + ad) v wd) s (P.1, P.2.1, P.2.2.1, s_wr P.2.2.2.1 ad vs, P.2.2.2.2) := by
  obtain ⟨h1, h2, h3, h4, h5, h6, h7, h8, h9, h10, h11⟩ := h
  have l1 := h10.len
  have l2 := h11.len
  have hf : ∀ j, ¬ (11 + 16 * s + ad ≤ j ∧ j < 11 + 16 * s + ad + wd) → m_wr N (11 + 16 * s + ad) v wd j = N j := fun j hj => by simp only [m_wr]; rw [if_neg hj]
  refine ⟨(hf _ (by omega)).trans h1, (hf _ (by omega)).trans h2, (hf _ (by omega)).trans h3, (hf _ (by omega)).trans h4, (hf _ (by omega)).trans h5, fun i hi => ?_, m_tg_fr h7 (fun j a b => hf j (by omega)), fun k x hx => ?_, fun k x hx => ?_, h10, h11⟩
  · show m_wr _ _ _ _ _ = s_wr P.2.2.2.1 ad vs i
    unfold s_wr
    by_cases c : ad ≤ i ∧ i < ad + wd
    · rw [if_pos c.1, List.getElem?_eq_getElem (by omega)]
      simp only [m_wr]
      rw [if_pos ⟨by omega, by omega⟩, show 11 + 16 * s + i - (11 + 16 * s + ad) = i - ad by omega]
      exact hv _ _ (List.getElem?_eq_getElem (by omega))
    · rw [hf _ (by omega), h6 i hi]
      by_cases c2 : ad ≤ i
      · rw [if_pos c2, List.getElem?_eq_none (by omega)]; rfl
      · rw [if_neg c2]
  · have hl2 : k < P.1.length := (List.getElem?_eq_some_iff.mp hx).1
    exact m_wt_mv (h10.1 x (List.mem_of_getElem? hx)).2.2.2.2.2.2.1 (h8 k x hx) (fun j hj => hf _ (by omega))
  · have hl2 : k < P.2.1.length := (List.getElem?_eq_some_iff.mp hx).1
    exact m_hd_mv (h11.1 x (List.mem_of_getElem? hx)).2.2.2.2.2.2.1 (h9 k x hx) (fun j hj => hf _ (by omega))
/-- what a target may meet: a completion whose tag waits for it -/
def s_cok (x : Tx) (T : Tg) : Prop := tK x = 3 → T.1 (tT x) ≠ 0 ∧ v_pc ((s_sto (tT x) (tO x) (tV x) T).2.2.1 (tT x)) ≤ T.2.1 (tT x)
def s_wok (now rm sp : Nat) : List Tx → Wk → Prop
  | [], _ => True
  | x :: r, S => if tM x ≤ now then s_cok x S.2.1 ∧ s_wok now rm sp r (s_one now rm sp x S).2.2 else s_wok now rm sp r S

theorem m_sd_tg {N N1 : Nat → Int32} {s : Nat} {P : Po} {T : Tg} (hs : s < 2) (h : m_sd N s P) (hT : m_tg N1 s T) (hag : ∀ j, ¬ (43 + 56 * s ≤ j ∧ j < 99 + 56 * s) → N1 j = N j) : m_sd N1 s (P.1, P.2.1, T, P.2.2.2) := by
  obtain ⟨h1, h2, h3, h4, h5, h6, h7, h8, h9, h10, h11⟩ := h
  have l1 := h10.len
  have l2 := h11.len
  refine ⟨(hag _ (by omega)).trans h1, (hag _ (by omega)).trans h2, (hag _ (by omega)).trans h3, (hag _ (by omega)).trans h4, (hag _ (by omega)).trans h5, fun i hi => (hag _ (by omega)).trans (h6 i hi), hT, fun k x hx => ?_, fun k x hx => ?_, h10, h11⟩
  · have hl2 : k < P.1.length := (List.getElem?_eq_some_iff.mp hx).1
    exact m_wt_mv (h10.1 x (List.mem_of_getElem? hx)).2.2.2.2.2.2.1 (h8 k x hx) (fun j hj => hag _ (by omega))
  · have hl2 : k < P.2.1.length := (List.getElem?_eq_some_iff.mp hx).1
    exact m_hd_mv (h11.1 x (List.mem_of_getElem? hx)).2.2.2.2.2.2.1 (h9 k x hx) (fun j hj => hag _ (by omega))
set_option maxRecDepth 20000 in
set_option maxHeartbeats 1000000 in
theorem c_mworks {l : Launch} {E : bz_E} {L : List Nat} {g : Nat → va_E} {o : Nat} {I : Nat → Int32} {A : Nat → Nat → Int32} {s p now rm sp : Nat} {P : Po} {x : Tx} (hs : s < 2) (hP : m_sd (A 1) s P) (hpx : P.2.1[p]? = some x) (hcok : s_cok x P.2.2.1) (hnow0 : A 1 0 = nI now) (hnow : now < 100000) (hrm : A 2 (4 * s + 3) = nI rm) (hrm8 : rm ≤ 8) (hcnt : s_cnt 3 P.1 ≤ rm) (hsp0 : A 6 0 = nI sp) (hsp : 1 ≤ sp ∧ sp ≤ 4) (hH : bz_H L g o (b_Mod E o I A)) : bz_K l E mX9_works 3 [.ref o, .int (nI s), .int (nI (1115 + 480 * s + 15 * p))] L g (fun r g1 => r = some (.int (tB (s_one now rm sp x (P.1, P.2.2.1, P.2.2.2.1)).1)) ∧ ∃ (N1 : Nat → Int32) (mv : Int32), bz_B L g g1 [(o, b_Mod E o (va_up I 24 mv) (va_up A 1 N1))] ∧ m_sd N1 s ((s_one now rm sp x (P.1, P.2.2.1, P.2.2.2.1)).2.2.1, P.2.1.set p (s_one now rm sp x (P.1, P.2.2.1, P.2.2.2.1)).2.1, (s_one now rm sp x (P.1, P.2.2.1, P.2.2.2.1)).2.2.2.1, (s_one now rm sp x (P.1, P.2.2.1, P.2.2.2.1)).2.2.2.2, P.2.2.2.2) ∧ ((s_one now rm sp x (P.1, P.2.2.1, P.2.2.2.1)).1 = false → mv = if (s_one now rm sp x (P.1, P.2.2.1, P.2.2.2.1)).2.2.1.length = P.1.length then I 24 else nI 1) ∧ s_cnt 3 (s_one now rm sp x (P.1, P.2.2.1, P.2.2.2.1)).2.2.1 ≤ rm ∧ P.1.length ≤ (s_one now rm sp x (P.1, P.2.2.1, P.2.2.2.1)).2.2.1.length ∧ ∀ j, ¬ m_rg s j → N1 j = A 1 j) := by
  refine bz_K.of (by decide) (bz_le rfl) (fun sz => ?_)
  show bz_G _ _ _ _ _ _ _ _ _ _ _ _ 0 [(0, .ref o), (1, .int (nI s)), (2, .int (nI (1115 + 480 * s + 15 * p)))] []
  have hB := bz_B.rf (bz_W.one hH)
  have hx := (hP.2.2.2.2.2.2.2.2.1 p x hpx).1
  have hxo := hP.2.2.2.2.2.2.2.2.2.2.1 x (List.mem_of_getElem? hpx)
  have hp32 := (List.getElem?_eq_some_iff.mp hpx).1
  have hw32 := hP.2.2.2.2.2.2.2.2.2.2.len
  obtain ⟨x1, x2, x3, x4, x5, x6, x7, x8, x9, x10⟩ := id hxo
  rcases (show tK x = 0 ∨ tK x = 1 ∨ tK x = 2 ∨ tK x = 3 by omega) with hk | hk | hk | hk
  · have e1 : (s_one now rm sp x (P.1, P.2.2.1, P.2.2.2.1)) = (true, x, P.1, P.2.2.1, s_wr P.2.2.2.1 (tA x) (tV x)) := by unfold s_one; rw [if_pos hk]
    refine g_aload_n (q := 1) dX9_works_0 rfl rfl ?_
    refine gb_getf (q := 4) (j := 0) (i := 0) dX9_works_1 rfl fl_X9_7 hB rfl rfl rfl rfl ?_
    refine g_iload_n (q := 5) dX9_works_4 rfl rfl ?_
    refine g_iconst (q := 6) (v := (nI 0)) dX9_works_5 rfl (by decide) ?_
    refine g_iaddN (q := 7) dX9_works_6 rfl ?_
    refine gb_ialdN (q := 8) (j := 0) (i := 1) dX9_works_7 rfl hB rfl rfl rfl (by omega) (by decide) ?_
    refine g_eqi (v := nI 0) (hx.1.trans (by rw [hk])) ?_
    refine g_tableIn (t := 36) dX9_works_8 (by decide) (by decide) rfl (by decide) ?_
    refine g_aload_n (q := 37) dX9_works_36 rfl rfl ?_
    refine g_iload_n (q := 38) dX9_works_37 rfl rfl ?_
    refine g_iload_n (q := 39) dX9_works_38 rfl rfl ?_
    refine gb_callV (q := 42) (j := 0) (i := 0) dX9_works_39 rfl kv_X9_268 (c_mwrites (ad := tA x) (wd := tW x) hs (by omega) hx.2.2.1 hx.2.2.2.1 x3 (hB.1.at (j := 0) rfl)) rfl (by decide) hB rfl rfl rfl rfl (bz_le rfl) (by decide) (by decide) (fun r g1 hQ => ?_)
    obtain ⟨rfl, h1⟩ := hQ
    have hB := hB.sp (j := 0) rfl 0 rfl h1 (bz_le rfl)
    refine g_iconst (q := 43) (v := (nI 1)) dX9_works_42 rfl (by decide) ?_
    exact g_zret dX9_works_43 rfl rfl ⟨by rw [e1]; rfl, (m_wr (A 1) (11 + 16 * s + tA x) (A 1 (1115 + 480 * s + 15 * p + 4)) (tW x)), I 24, hB, by rw [e1]; show m_sd _ s (_, P.2.1.set p x, _); rw [s_setself hpx]; exact m_sd_wr hs hP (x8 (Or.inl hk)) x3 (hx.2.2.2.2.2.1 (Or.inl hk)), by rw [e1]; intro h; exact Bool.noConfusion h, by rw [e1]; exact hcnt, by rw [e1]; exact Nat.le_refl _, fun j hj => by unfold m_rg at hj; simp only [m_wr]; rw [if_neg (by omega)]⟩
  · have e1 : (s_one now rm sp x (P.1, P.2.2.1, P.2.2.2.1)) = (decide (tW x ≤ (s_ans P.2.2.2.1 now rm sp x 4 P.1 (tO x)).2), (tK x, tT x, tR x, tA x, tW x, tM x, (s_ans P.2.2.2.1 now rm sp x 4 P.1 (tO x)).2, tV x), (s_ans P.2.2.2.1 now rm sp x 4 P.1 (tO x)).1, P.2.2.1, P.2.2.2.1) := by unfold s_one; rw [if_neg (by omega), if_pos hk]
    refine g_aload_n (q := 1) dX9_works_0 rfl rfl ?_
    refine gb_getf (q := 4) (j := 0) (i := 0) dX9_works_1 rfl fl_X9_7 hB rfl rfl rfl rfl ?_
    refine g_iload_n (q := 5) dX9_works_4 rfl rfl ?_
    refine g_iconst (q := 6) (v := (nI 0)) dX9_works_5 rfl (by decide) ?_
    refine g_iaddN (q := 7) dX9_works_6 rfl ?_
    refine gb_ialdN (q := 8) (j := 0) (i := 1) dX9_works_7 rfl hB rfl rfl rfl (by omega) (by decide) ?_
    refine g_eqi (v := nI 1) (hx.1.trans (by rw [hk])) ?_
    refine g_tableIn (t := 44) dX9_works_8 (by decide) (by decide) rfl (by decide) ?_
    refine g_aload_n (q := 45) dX9_works_44 rfl rfl ?_
    refine g_iload_n (q := 46) dX9_works_45 rfl rfl ?_
    refine g_iload_n (q := 47) dX9_works_46 rfl rfl ?_
    refine gb_callV (q := 50) (j := 0) (i := 0) dX9_works_47 rfl kv_X9_272 (c_manswers (P := P) (mem := P.2.2.2.1) hs hP rfl hpx hk hnow0 hnow hrm hrm8 hcnt hsp0 hsp (hB.1.at (j := 0) rfl)) rfl (by decide) hB rfl rfl rfl rfl (bz_le rfl) (by decide) (by decide) (fun r g1 hQ => ?_)
    obtain ⟨rfl, N1, h1, hN1, hc1, hl1, ha1⟩ := hQ
    have hB := hB.sp (j := 0) rfl 0 rfl h1 (bz_le rfl)
    exact g_zret dX9_works_50 rfl (by split <;> rfl) ⟨by rw [e1]; simp only [tB]; split <;> simp_all, N1, _, hB, by rw [e1]; exact hN1, by rw [e1]; exact fun _ => rfl, by rw [e1]; exact hc1, by rw [e1]; exact hl1, ha1⟩
  · by_cases hc : s_cnt 3 P.1 < rm
    · have e1 : (s_one now rm sp x (P.1, P.2.2.1, P.2.2.2.1)) = (true, x, P.1 ++ [s_cmp P.2.2.2.1 x 0 0 now], P.2.2.1, s_wr P.2.2.2.1 (tA x) (tV x)) := by unfold s_one; rw [if_neg (by omega), if_neg (by omega), if_pos hk, if_pos hc]
      have hql : P.1.length < 32 := hP.2.2.2.2.2.2.2.2.2.1.lt (k := 3) (by decide) (by omega)
      have hw := m_sd_wr hs hP (x8 (Or.inr hk)) x3 (hx.2.2.2.2.2.1 (Or.inr hk))
      have hcm := m_cm_at (N := (m_wr (A 1) (11 + 16 * s + tA x) (A 1 (1115 + 480 * s + 15 * p + 4)) (tW x))) (s := s) (n := P.1.length) (k := nI 3) (tag := tI x) (ad := nI (tA x)) (wd := nI 0) (rel := tB (tR x)) hs
      have hwt : m_wt (m_cm (m_wr (A 1) (11 + 16 * s + tA x) (A 1 (1115 + 480 * s + 15 * p + 4)) (tW x)) s P.1.length (nI 3) (tI x) (nI (tA x)) (nI 0) (tB (tR x))) (155 + 480 * s + 15 * P.1.length) (s_cmp P.2.2.2.1 x 0 0 now) :=
        ⟨⟨hcm.1, hcm.2.1.trans (by rw [tI, if_neg (by omega)]; rfl), hcm.2.2.1, hcm.2.2.2.1, hcm.2.2.2.2.1, fun h => absurd h (by show ¬ (3 = 0 ∨ 3 = 2); decide), fun _ => ⟨m_cm_7 hs, fun j v hj => by simp [s_cmp, tV] at hj⟩, fun h => absurd (show (3 : Nat) = 1 from h) (by decide)⟩, hcm.2.2.2.2.2.1.trans ((show m_wr _ _ _ _ _ = _ by simp only [m_wr]; rw [if_neg (by omega)]).trans hnow0)⟩
      have happ := m_sd_app hs hw hql hwt hcm.2.2.2.2.2.2.1 (fun j h1 h2 => m_cm_ag h1 h2) (hP.2.2.2.2.2.2.2.2.2.1.app (s_cmp_ok hxo (by omega) hnow) (show s_cnt 3 P.1 < 8 by omega))
      have J : ∀ g1 : Nat → va_E, bz_B L g g1 [(o, b_Mod E o I (va_up A 1 (m_wr (A 1) (11 + 16 * s + tA x) (A 1 (1115 + 480 * s + 15 * p + 4)) (tW x))))] → bz_G l E mX9_works (bz_R 3 0 0) L sz (bz_Fm E L sz (fun r g1 => r = some (.int (tB (s_one now rm sp x (P.1, P.2.2.1, P.2.2.2.1)).1)) ∧ ∃ (N1 : Nat → Int32) (mv : Int32), bz_B L g g1 [(o, b_Mod E o (va_up I 24 mv) (va_up A 1 N1))] ∧ m_sd N1 s ((s_one now rm sp x (P.1, P.2.2.1, P.2.2.2.1)).2.2.1, P.2.1.set p (s_one now rm sp x (P.1, P.2.2.1, P.2.2.2.1)).2.1, (s_one now rm sp x (P.1, P.2.2.1, P.2.2.2.1)).2.2.2.1, (s_one now rm sp x (P.1, P.2.2.1, P.2.2.2.1)).2.2.2.2, P.2.2.2.2) ∧ ((s_one now rm sp x (P.1, P.2.2.1, P.2.2.2.1)).1 = false → mv = if (s_one now rm sp x (P.1, P.2.2.1, P.2.2.2.1)).2.2.1.length = P.1.length then I 24 else nI 1) ∧ s_cnt 3 (s_one now rm sp x (P.1, P.2.2.1, P.2.2.2.1)).2.2.1 ≤ rm ∧ P.1.length ≤ (s_one now rm sp x (P.1, P.2.2.1, P.2.2.2.1)).2.2.1.length ∧ ∀ j, ¬ m_rg s j → N1 j = A 1 j)) sz 0 0 L g1 105 [(0, .ref o), (1, .int (nI s)), (2, .int (nI (1115 + 480 * s + 15 * p)))] [.int (tB (tR x)), .int (nI 0), .int (nI (tA x)), .int (tI x), .int (nI 3), .int (nI s), .ref o] := by
        intro g hB
        refine gb_callV (q := 108) (j := 0) (i := 0) dX9_works_105 rfl kv_X9_278 (c_mcomes (A := va_up A 1 (m_wr (A 1) (11 + 16 * s + tA x) (A 1 (1115 + 480 * s + 15 * p + 4)) (tW x))) (n := P.1.length) (rx := tR x) hs hql ((show m_wr _ _ _ _ _ = _ by simp only [m_wr]; rw [if_neg (by omega)]).trans hP.1) (hB.1.at (j := 0) rfl)) rfl (by decide) hB rfl rfl rfl rfl (bz_le rfl) (by decide) (by decide) (fun r g1 hQ => ?_)
        obtain ⟨rfl, h1⟩ := hQ
        have hB := hB.sp (j := 0) rfl 0 rfl h1 (bz_le rfl)
        refine g_pop (q := 109) dX9_works_108 rfl rfl ?_
        refine g_iconst (q := 110) (v := (nI 1)) dX9_works_109 rfl (by decide) ?_
        exact g_zret dX9_works_110 rfl rfl ⟨by rw [e1]; rfl, (m_cm (m_wr (A 1) (11 + 16 * s + tA x) (A 1 (1115 + 480 * s + 15 * p + 4)) (tW x)) s P.1.length (nI 3) (tI x) (nI (tA x)) (nI 0) (tB (tR x))), I 24, hB, by rw [e1]; show m_sd _ s (_, P.2.1.set p x, _); rw [s_setself hpx]; exact happ, by rw [e1]; intro h; exact Bool.noConfusion h, by rw [e1, s_cnt_app, if_pos (show tK (s_cmp _ _ _ _ _) = 3 from rfl)]; omega, by rw [e1, List.length_append]; omega, fun j hj => by unfold m_rg at hj; rw [m_cm_ag (by omega) (by omega)]; simp only [m_wr]; rw [if_neg (by omega)]⟩
      refine g_aload_n (q := 1) dX9_works_0 rfl rfl ?_
      refine gb_getf (q := 4) (j := 0) (i := 0) dX9_works_1 rfl fl_X9_7 hB rfl rfl rfl rfl ?_
      refine g_iload_n (q := 5) dX9_works_4 rfl rfl ?_
      refine g_iconst (q := 6) (v := (nI 0)) dX9_works_5 rfl (by decide) ?_
      refine g_iaddN (q := 7) dX9_works_6 rfl ?_
      refine gb_ialdN (q := 8) (j := 0) (i := 1) dX9_works_7 rfl hB rfl rfl rfl (by omega) (by decide) ?_
      refine g_eqi (v := nI 2) (hx.1.trans (by rw [hk])) ?_
      refine g_tableIn (t := 51) dX9_works_8 (by decide) (by decide) rfl (by decide) ?_
      refine g_aload_n (q := 52) dX9_works_51 rfl rfl ?_
      refine g_iload_n (q := 53) dX9_works_52 rfl rfl ?_
      refine g_iconst (q := 54) (v := (nI 3)) dX9_works_53 rfl (by decide) ?_
      refine gb_callV (q := 57) (j := 0) (i := 0) dX9_works_54 rfl kv_X9_275 (c_mroom (P := P) (z := rm) hs (by decide) hrm hP (hB.1.at (j := 0) rfl)) rfl (by decide) hB rfl rfl rfl rfl (bz_le rfl) (by decide) (by decide) (fun r g1 hQ => ?_)
      obtain ⟨rfl, hg⟩ := hQ
      have hg := hg.symm
      subst hg
      refine g_eqi (v := nI (rm - s_cnt 3 P.1)) (bz_subI hcnt) ?_
      refine g_ifN_ne (q := 60) (t := 62) dX9_works_57 rfl (by decide) (by omega) (fun _ => ?_) (fun c => absurd c (by omega))
      refine g_aload_n (q := 63) dX9_works_62 rfl rfl ?_
      refine g_iload_n (q := 64) dX9_works_63 rfl rfl ?_
      refine g_iload_n (q := 65) dX9_works_64 rfl rfl ?_
      refine gb_callV (q := 68) (j := 0) (i := 0) dX9_works_65 rfl kv_X9_268 (c_mwrites (ad := tA x) (wd := tW x) hs (by omega) hx.2.2.1 hx.2.2.2.1 x3 (hB.1.at (j := 0) rfl)) rfl (by decide) hB rfl rfl rfl rfl (bz_le rfl) (by decide) (by decide) (fun r g1 hQ => ?_)
      obtain ⟨rfl, h1⟩ := hQ
      have hB := hB.sp (j := 0) rfl 0 rfl h1 (bz_le rfl)
      refine g_aload_n (q := 69) dX9_works_68 rfl rfl ?_
      refine g_iload_n (q := 70) dX9_works_69 rfl rfl ?_
      refine g_iconst (q := 71) (v := (nI 3)) dX9_works_70 rfl (by decide) ?_
      refine g_aload_n (q := 72) dX9_works_71 rfl rfl ?_
      refine gb_getf (q := 75) (j := 0) (i := 0) dX9_works_72 rfl fl_X9_7 hB rfl rfl rfl rfl ?_
      refine g_iload_n (q := 76) dX9_works_75 rfl rfl ?_
      refine g_iconst (q := 77) (v := (nI 1)) dX9_works_76 rfl (by decide) ?_
      refine g_iaddN (q := 78) dX9_works_77 rfl ?_
      refine gb_ialdN (q := 79) (j := 0) (i := 1) dX9_works_78 rfl hB rfl rfl rfl (by omega) (by decide) ?_
      refine g_eqi (v := tI x) ((show m_wr _ _ _ _ _ = _ by simp only [m_wr]; rw [if_neg (by omega)]).trans hx.2.1) ?_
      refine g_aload_n (q := 80) dX9_works_79 rfl rfl ?_
      refine gb_getf (q := 83) (j := 0) (i := 0) dX9_works_80 rfl fl_X9_7 hB rfl rfl rfl rfl ?_
      refine g_iload_n (q := 84) dX9_works_83 rfl rfl ?_
      refine g_iconst (q := 85) (v := (nI 2)) dX9_works_84 rfl (by decide) ?_
      refine g_iaddN (q := 86) dX9_works_85 rfl ?_
      refine gb_ialdN (q := 87) (j := 0) (i := 1) dX9_works_86 rfl hB rfl rfl rfl (by omega) (by decide) ?_
      refine g_eqi (v := nI (tA x)) ((show m_wr _ _ _ _ _ = _ by simp only [m_wr]; rw [if_neg (by omega)]).trans hx.2.2.1) ?_
      refine g_iconst (q := 88) (v := (nI 0)) dX9_works_87 rfl (by decide) ?_
      refine g_aload_n (q := 89) dX9_works_88 rfl rfl ?_
      refine gb_getf (q := 92) (j := 0) (i := 0) dX9_works_89 rfl fl_X9_7 hB rfl rfl rfl rfl ?_
      refine g_iload_n (q := 93) dX9_works_92 rfl rfl ?_
      refine g_iconst (q := 94) (v := (nI 5)) dX9_works_93 rfl (by decide) ?_
      refine g_iaddN (q := 95) dX9_works_94 rfl ?_
      refine gb_ialdN (q := 96) (j := 0) (i := 1) dX9_works_95 rfl hB rfl rfl rfl (by omega) (by decide) ?_
      refine g_iconst (q := 97) (v := (nI 1)) dX9_works_96 rfl (by decide) ?_
      refine g_icmp_ne (q := 100) (t := 104) dX9_works_97 rfl (by decide) (fun c_97 => ?_) (fun c_97 => ?_)
      · refine g_iconst (q := 105) (v := (nI 0)) dX9_works_104 rfl (by decide) ?_
        refine g_lvs (lv1 := [(0, .ref o), (1, .int (nI s)), (2, .int (nI (1115 + 480 * s + 15 * p)))]) ⟨rfl, rfl, rfl, trivial⟩ ?_
        refine g_eqi (v := tB (tR x)) (by first | exact tB_ne ((show m_wr _ _ _ _ _ = _ by simp only [m_wr]; rw [if_neg (by omega)]).trans hx.2.2.2.2.1) c_97 | exact tB_eq ((show m_wr _ _ _ _ _ = _ by simp only [m_wr]; rw [if_neg (by omega)]).trans hx.2.2.2.2.1) c_97) ?_
        exact J _ hB
      · refine g_iconst (q := 101) (v := (nI 1)) dX9_works_100 rfl (by decide) ?_
        refine g_goto (q := 105) dX9_works_101 (by decide) ?_
        refine g_lvs (lv1 := [(0, .ref o), (1, .int (nI s)), (2, .int (nI (1115 + 480 * s + 15 * p)))]) ⟨rfl, rfl, rfl, trivial⟩ ?_
        refine g_eqi (v := tB (tR x)) (by first | exact tB_ne ((show m_wr _ _ _ _ _ = _ by simp only [m_wr]; rw [if_neg (by omega)]).trans hx.2.2.2.2.1) c_97 | exact tB_eq ((show m_wr _ _ _ _ _ = _ by simp only [m_wr]; rw [if_neg (by omega)]).trans hx.2.2.2.2.1) c_97) ?_
        exact J _ hB
    · have e1 : (s_one now rm sp x (P.1, P.2.2.1, P.2.2.2.1)) = (false, x, P.1, P.2.2.1, P.2.2.2.1) := by unfold s_one; rw [if_neg (by omega), if_neg (by omega), if_pos hk, if_neg hc]
      refine g_aload_n (q := 1) dX9_works_0 rfl rfl ?_
      refine gb_getf (q := 4) (j := 0) (i := 0) dX9_works_1 rfl fl_X9_7 hB rfl rfl rfl rfl ?_
      refine g_iload_n (q := 5) dX9_works_4 rfl rfl ?_
      refine g_iconst (q := 6) (v := (nI 0)) dX9_works_5 rfl (by decide) ?_
      refine g_iaddN (q := 7) dX9_works_6 rfl ?_
      refine gb_ialdN (q := 8) (j := 0) (i := 1) dX9_works_7 rfl hB rfl rfl rfl (by omega) (by decide) ?_
      refine g_eqi (v := nI 2) (hx.1.trans (by rw [hk])) ?_
      refine g_tableIn (t := 51) dX9_works_8 (by decide) (by decide) rfl (by decide) ?_
      refine g_aload_n (q := 52) dX9_works_51 rfl rfl ?_
      refine g_iload_n (q := 53) dX9_works_52 rfl rfl ?_
      refine g_iconst (q := 54) (v := (nI 3)) dX9_works_53 rfl (by decide) ?_
      refine gb_callV (q := 57) (j := 0) (i := 0) dX9_works_54 rfl kv_X9_275 (c_mroom (P := P) (z := rm) hs (by decide) hrm hP (hB.1.at (j := 0) rfl)) rfl (by decide) hB rfl rfl rfl rfl (bz_le rfl) (by decide) (by decide) (fun r g1 hQ => ?_)
      obtain ⟨rfl, hg⟩ := hQ
      have hg := hg.symm
      subst hg
      refine g_eqi (v := nI (rm - s_cnt 3 P.1)) (bz_subI hcnt) ?_
      refine g_ifN_ne (q := 60) (t := 62) dX9_works_57 rfl (by decide) (by omega) (fun c => absurd c (by omega)) (fun _ => ?_)
      refine g_iconst (q := 61) (v := (nI 0)) dX9_works_60 rfl (by decide) ?_
      exact g_zret dX9_works_61 rfl rfl ⟨by rw [e1]; rfl, A 1, I 24, hB, by rw [e1]; show m_sd _ s (_, P.2.1.set p x, _); rw [s_setself hpx]; exact hP, by rw [e1]; intro _; rw [if_pos rfl], by rw [e1]; exact hcnt, by rw [e1]; exact Nat.le_refl _, fun j _ => rfl⟩
  · have e1 : (s_one now rm sp x (P.1, P.2.2.1, P.2.2.2.1)) = (true, x, P.1, s_cpl (tT x) (s_sto (tT x) (tO x) (tV x) P.2.2.1), P.2.2.2.1) := by unfold s_one; rw [if_neg (by omega), if_neg (by omega), if_neg (by omega)]
    refine g_aload_n (q := 1) dX9_works_0 rfl rfl ?_
    refine gb_getf (q := 4) (j := 0) (i := 0) dX9_works_1 rfl fl_X9_7 hB rfl rfl rfl rfl ?_
    refine g_iload_n (q := 5) dX9_works_4 rfl rfl ?_
    refine g_iconst (q := 6) (v := (nI 0)) dX9_works_5 rfl (by decide) ?_
    refine g_iaddN (q := 7) dX9_works_6 rfl ?_
    refine gb_ialdN (q := 8) (j := 0) (i := 1) dX9_works_7 rfl hB rfl rfl rfl (by omega) (by decide) ?_
    refine g_eqi (v := nI 3) (hx.1.trans (by rw [hk])) ?_
    refine g_tableOut (t := 111) dX9_works_8 (by decide) (by decide) ?_
    refine g_aload_n (q := 112) dX9_works_111 rfl rfl ?_
    refine g_iload_n (q := 113) dX9_works_112 rfl rfl ?_
    refine g_iload_n (q := 114) dX9_works_113 rfl rfl ?_
    refine gb_callV (q := 117) (j := 0) (i := 0) dX9_works_114 rfl kv_X9_282 (c_mstores hs (by omega) hx hk hxo hP.2.2.2.2.2.2.1 (hcok hk).1 (hcok hk).2 (hB.1.at (j := 0) rfl)) rfl (by decide) hB rfl rfl rfl rfl (bz_le rfl) (by decide) (by decide) (fun r g1 hQ => ?_)
    obtain ⟨rfl, N1, h1, hT1, ha1⟩ := hQ
    have hB := hB.sp (j := 0) rfl 0 rfl h1 (bz_le rfl)
    refine g_iconst (q := 118) (v := (nI 1)) dX9_works_117 rfl (by decide) ?_
    exact g_zret dX9_works_118 rfl rfl ⟨by rw [e1]; rfl, N1, I 24, hB, by rw [e1]; show m_sd _ s (_, P.2.1.set p x, _); rw [s_setself hpx]; exact m_sd_tg hs hP hT1 ha1, by rw [e1]; intro h; exact Bool.noConfusion h, by rw [e1]; exact hcnt, by rw [e1]; exact Nat.le_refl _, fun j hj => ha1 j (by unfold m_rg at hj; omega)⟩
