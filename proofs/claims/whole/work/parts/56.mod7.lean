/-! the reference: targets -/
theorem m_lv_ag {N : Nat → Int32} {a b j : Nat} (h : ¬ (a ≤ j ∧ j < b)) : m_lv N a b j = N j := by simp only [m_lv]; rw [if_neg h]
theorem m_sd_hlv {N : Nat → Int32} {s p n : Nat} {P : Po} (hs : s < 2) (h : m_sd N s P) (hn : P.2.1.length = n) (hp : p < n) : m_sd (upd (m_lv N (1115 + 480 * s + 15 * p) (1115 + 480 * s + 15 * (n - 1))) (3 + s) (nI (n - 1))) s (P.1, P.2.1.eraseIdx p, P.2.2) := by
  obtain ⟨h1, h2, h3, h4, h5, h6, h7, h8, h9, h10, h11⟩ := h
  have l1 := h10.len
  have l2 := h11.len
  have hf : ∀ j, j ≠ 3 + s → ¬ (1115 + 480 * s + 15 * p ≤ j ∧ j < 1115 + 480 * s + 15 * (n - 1)) → upd (m_lv N (1115 + 480 * s + 15 * p) (1115 + 480 * s + 15 * (n - 1))) (3 + s) (nI (n - 1)) j = N j := fun j a b => (upd_ne a).trans (m_lv_ag b)
  refine ⟨(hf _ (by omega) (by omega)).trans h1, by rw [upd_eq, List.length_eraseIdx, if_pos (by omega), hn], (hf _ (by omega) (by omega)).trans h3, (hf _ (by omega) (by omega)).trans h4, (hf _ (by omega) (by omega)).trans h5, fun i hi => (hf _ (by omega) (by omega)).trans (h6 i hi), m_tg_fr h7 (fun j a b => hf j (by omega) (by omega)), fun k x hx => ?_, fun k x hx => ?_, h10, s_lok_er h11⟩
  · have hl2 : k < P.1.length := (List.getElem?_eq_some_iff.mp hx).1
    exact m_wt_mv (h10.1 x (List.mem_of_getElem? hx)).2.2.2.2.2.2.1 (h8 k x hx) (fun j hj => hf _ (by omega) (by omega))
  · rw [List.getElem?_eraseIdx] at hx
    by_cases hk : k < p
    · rw [if_pos hk] at hx
      exact m_hd_mv (h11.1 x (List.mem_of_getElem? hx)).2.2.2.2.2.2.1 (h9 k x hx) (fun j hj => hf _ (by omega) (by omega))
    · rw [if_neg hk] at hx
      have hl2 : k + 1 < P.2.1.length := (List.getElem?_eq_some_iff.mp hx).1
      refine m_hd_mv (h11.1 x (List.mem_of_getElem? hx)).2.2.2.2.2.2.1 (h9 (k + 1) x hx) (fun j hj => ?_)
      rw [upd_ne (by omega)]
      simp only [m_lv]
      rw [if_pos ⟨by omega, by omega⟩]
      congr 1; omega

set_option maxRecDepth 20000 in
set_option maxHeartbeats 1000000 in
theorem c_mtargets {l : Launch} {E : bz_E} {L : List Nat} {g : Nat → va_E} {o : Nat} {I : Nat → Int32} {A : Nat → Nat → Int32} {s now rm sp : Nat} {P : Po} (hs : s < 2) (hP : m_sd (A 1) s P) (hwok : s_wok now rm sp P.2.1 (P.1, P.2.2.1, P.2.2.2.1)) (hnow0 : A 1 0 = nI now) (hnow : now < 100000) (hrm : A 2 (4 * s + 3) = nI rm) (hrm8 : rm ≤ 8) (hcnt : s_cnt 3 P.1 ≤ rm) (hsp0 : A 6 0 = nI sp) (hsp : 1 ≤ sp ∧ sp ≤ 4) (hH : bz_H L g o (b_Mod E o I A)) : bz_K l E mX9_targets 4 [.ref o, .int (nI s)] L g (fun r g1 => r = none ∧ ∃ N1 : Nat → Int32, bz_B L g g1 [(o, b_Mod E o (va_up I 24 (if s_mvd P (s_wkp now rm sp P) then nI 1 else I 24)) (va_up A 1 N1))] ∧ m_sd N1 s (s_wkp now rm sp P) ∧ s_cnt 3 (s_wkp now rm sp P).1 ≤ rm ∧ ∀ j, ¬ m_rg s j → N1 j = A 1 j) := by
  refine bz_K.of (by decide) (bz_le rfl) (fun sz => ?_)
  show bz_G _ _ _ _ _ _ _ _ _ _ _ _ 0 [(0, .ref o), (1, .int (nI s))] []
  have hB := bz_B.rf (bz_W.one hH)
  have KK : ∀ (R K Q : List Tx) (T : Tg) (mem N : Nat → Int32) (mv : Int32) (g1 : Nat → va_E), m_sd N s (Q, K ++ R, T, mem, P.2.2.2.2) → N 0 = nI now → s_cnt 3 Q ≤ rm → s_wok now rm sp R (Q, T, mem) → (K ++ (s_work now rm sp R (Q, T, mem)).1, (s_work now rm sp R (Q, T, mem)).2) = (s_work now rm sp P.2.1 (P.1, P.2.2.1, P.2.2.2.1)) → P.1.length ≤ Q.length → (K ++ R).length ≤ P.2.1.length → mv = (if (K ++ R).length = P.2.1.length ∧ (Q).length = P.1.length then I 24 else nI 1) → (∀ j, ¬ m_rg s j → N j = A 1 j) → bz_B L g g1 [(o, (b_Mod E o (va_up I 24 mv) (va_up A 1 N)))] → bz_G l E mX9_targets (bz_R 4 0 0) L sz (bz_Fm E L sz (fun r g1 => r = none ∧ ∃ N1 : Nat → Int32, bz_B L g g1 [(o, b_Mod E o (va_up I 24 (if s_mvd P (s_wkp now rm sp P) then nI 1 else I 24)) (va_up A 1 N1))] ∧ m_sd N1 s (s_wkp now rm sp P) ∧ s_cnt 3 (s_wkp now rm sp P).1 ≤ rm ∧ ∀ j, ¬ m_rg s j → N1 j = A 1 j)) sz 0 0 L g1 2 [(2, .int (nI K.length)), (0, .ref o), (1, .int (nI s))] [] := by
    intro R
    induction R with
    | nil =>
      intro K Q T mem N mv g2 hN hn0 hcq hw hrun hlq hll hmv hag hB
      have hl32 := hN.2.2.2.2.2.2.2.2.2.2.len
      have hK32 : K.length ≤ 32 := by simpa using hl32
      have e5 : s_wkp now rm sp P = (Q, K ++ [], T, mem, P.2.2.2.2) := by unfold s_wkp; rw [← hrun, s_work]
      have hmv2 : mv = if s_mvd P (s_wkp now rm sp P) then nI 1 else I 24 := by
        rw [hmv, e5]
        unfold s_mvd
        dsimp only
        by_cases c : (K ++ []).length = P.2.1.length ∧ Q.length = P.1.length
        · rw [if_pos c, if_neg (by simp only [decide_eq_true_eq]; omega)]
        · rw [if_neg c, if_pos (by simp only [decide_eq_true_eq]; omega)]
      rw [hmv2] at hB
      refine g_iload_n (q := 3) dX9_targets_2 rfl rfl ?_
      refine g_aload_n (q := 4) dX9_targets_3 rfl rfl ?_
      refine gb_getf (q := 7) (j := 0) (i := 0) dX9_targets_4 rfl fl_X9_7 hB rfl rfl rfl rfl ?_
      refine g_iconst (q := 8) (v := (nI 3)) dX9_targets_7 rfl (by decide) ?_
      refine g_iload_n (q := 9) dX9_targets_8 rfl rfl ?_
      refine g_iaddN (q := 10) dX9_targets_9 rfl ?_
      refine gb_ialdN (q := 11) (j := 0) (i := 1) dX9_targets_10 rfl hB rfl rfl rfl (by omega) (by decide) ?_
      refine g_eqi (v := nI (K.length)) (hN.2.1.trans (by simp)) ?_
      refine g_icmpN_ge (q := 14) (t := 101) dX9_targets_11 rfl (by decide) (by omega) (by omega) (fun _ => ?_) (fun c => absurd c (by omega))
      exact g_vret dX9_targets_101 rfl (⟨rfl, N, hB, by rw [e5]; exact hN, by rw [e5]; exact hcq, hag⟩)
    | cons x R ih =>
      intro K Q T mem N mv g2 hN hn0 hcq hw hrun hlq hll hmv hag hB
      have hmid := s_mid (K := K) (R := R) (x := x)
      have hlen : (K ++ x :: R).length = K.length + R.length + 1 := by simp; omega
      have hl32 := hN.2.2.2.2.2.2.2.2.2.2.len
      dsimp only at hl32
      rw [hlen] at hl32
      have hxo := hN.2.2.2.2.2.2.2.2.2.2.1 x (List.mem_of_getElem? hmid)
      obtain ⟨hx, ac, lt, b1, b2, b3, b4⟩ := hN.2.2.2.2.2.2.2.2.1 K.length x hmid
      have hxm := hxo.2.2.2.2.1
      by_cases hdue : tM x ≤ now
      · rw [s_wok, if_pos hdue] at hw
        cases hd : (s_one now rm sp x (Q, T, mem)).1 with
        | false =>
          refine g_iload_n (q := 3) dX9_targets_2 rfl rfl ?_
          refine g_aload_n (q := 4) dX9_targets_3 rfl rfl ?_
          refine gb_getf (q := 7) (j := 0) (i := 0) dX9_targets_4 rfl fl_X9_7 hB rfl rfl rfl rfl ?_
          refine g_iconst (q := 8) (v := (nI 3)) dX9_targets_7 rfl (by decide) ?_
          refine g_iload_n (q := 9) dX9_targets_8 rfl rfl ?_
          refine g_iaddN (q := 10) dX9_targets_9 rfl ?_
          refine gb_ialdN (q := 11) (j := 0) (i := 1) dX9_targets_10 rfl hB rfl rfl rfl (by omega) (by decide) ?_
          refine g_eqi (v := nI (K.length + R.length + 1)) (hN.2.1.trans (by rw [← hlen])) ?_
          refine g_icmpN_ge (q := 14) (t := 101) dX9_targets_11 rfl (by decide) (by omega) (by omega) (fun c => absurd c (by omega)) (fun _ => ?_)
          refine g_iload_n (q := 15) dX9_targets_14 rfl rfl ?_
          refine g_iload_n (q := 16) dX9_targets_15 rfl rfl ?_
          refine g_callS (q := 19) dX9_targets_16 rfl ks_X9_240 rfl (c_held0 (s := s) (k := K.length)) (by decide) rfl (bz_le rfl) (by decide) (by decide) (fun r g1 hQ => ?_)
          obtain ⟨rfl, hg⟩ := hQ
          have hg := hg.symm
          subst hg
          refine g_istore_n (q := 20) rfl dX9_targets_19 rfl (by decide) rfl ?_
          refine g_aload_n (q := 21) dX9_targets_20 rfl rfl ?_
          refine gb_getf (q := 24) (j := 0) (i := 0) dX9_targets_21 rfl fl_X9_7 hB rfl rfl rfl rfl ?_
          refine g_iconst (q := 25) (v := (nI 0)) dX9_targets_24 rfl (by decide) ?_
          refine gb_ialdN (q := 26) (j := 0) (i := 1) dX9_targets_25 rfl hB rfl rfl rfl (by omega) (by decide) ?_
          refine g_eqi (v := nI (now)) (hn0) ?_
          refine g_aload_n (q := 27) dX9_targets_26 rfl rfl ?_
          refine gb_getf (q := 30) (j := 0) (i := 0) dX9_targets_27 rfl fl_X9_7 hB rfl rfl rfl rfl ?_
          refine g_iload_n (q := 31) dX9_targets_30 rfl rfl ?_
          refine g_bipush (q := 33) (v := (nI 12)) dX9_targets_31 rfl (by decide) ?_
          refine g_iaddN (q := 34) dX9_targets_33 rfl ?_
          refine gb_ialdN (q := 35) (j := 0) (i := 1) dX9_targets_34 rfl hB rfl rfl rfl (by omega) (by decide) ?_
          refine g_eqi (v := nI (ac)) (b1) ?_
          refine g_aload_n (q := 36) dX9_targets_35 rfl rfl ?_
          refine gb_getf (q := 39) (j := 0) (i := 0) dX9_targets_36 rfl fl_X9_7 hB rfl rfl rfl rfl ?_
          refine g_iload_n (q := 40) dX9_targets_39 rfl rfl ?_
          refine g_bipush (q := 42) (v := (nI 13)) dX9_targets_40 rfl (by decide) ?_
          refine g_iaddN (q := 43) dX9_targets_42 rfl ?_
          refine gb_ialdN (q := 44) (j := 0) (i := 1) dX9_targets_43 rfl hB rfl rfl rfl (by omega) (by decide) ?_
          refine g_eqi (v := nI (lt)) (b2) ?_
          refine g_iaddN (q := 45) dX9_targets_44 rfl ?_
          refine g_icmpN_le (q := 48) (t := 95) dX9_targets_45 rfl (by decide) (by omega) (by omega) (fun c => absurd c (by omega)) (fun _ => ?_)
          refine g_aload_n (q := 49) dX9_targets_48 rfl rfl ?_
          refine g_iload_n (q := 50) dX9_targets_49 rfl rfl ?_
          refine g_iload_n (q := 51) dX9_targets_50 rfl rfl ?_
          refine gb_callV (q := 54) (j := 0) (i := 0) dX9_targets_51 rfl kv_X9_289 (c_mworks (A := va_up A 1 N) (I := va_up I 24 mv) (P := (Q, K ++ x :: R, T, mem, P.2.2.2.2)) (p := K.length) (x := x) hs hN s_mid hw.1 hn0 hnow hrm hrm8 hcq hsp0 hsp (hB.1.at (j := 0) rfl)) rfl (by decide) hB rfl rfl rfl rfl (bz_le rfl) (by decide) (by decide) (fun r g1 hQ => ?_)
          obtain ⟨rfl, N1, mv1, h1, hN1, hmv1, hc1, hl1, ha1⟩ := hQ
          have hB := hB.sp (j := 0) rfl 0 rfl h1 (bz_le rfl)
          have hB : bz_B L g _ [(o, (b_Mod E o (va_up I 24 mv1) (va_up A 1 N1)))] := hB
          dsimp only at hN1 hmv1 hc1 hl1
          rw [s_mset] at hN1
          rw [hd]
          refine g_if_eq (q := 57) (t := 95) dX9_targets_54 rfl (by decide) (fun _ => ?_) (fun c => absurd (rfl) c)
          refine g_iincN (q := 98) (c := 1) dX9_targets_95 rfl (by decide) rfl rfl (by decide) ?_
          refine g_goto (q := 2) dX9_targets_98 (by decide) ?_
          refine g_lvs (lv1 := [(2, .int (nI (K.length + 1))), (0, .ref o), (1, .int (nI s))]) ⟨rfl, rfl, rfl, trivial⟩ ?_
          refine g_lvs (lv1 := [(2, .int (nI (K ++ [(s_one now rm sp x (Q, T, mem)).2.1]).length)), (0, .ref o), (1, .int (nI s))]) ⟨by rw [List.length_append]; rfl, rfl, rfl, trivial⟩ ?_
          exact ih (K ++ [(s_one now rm sp x (Q, T, mem)).2.1]) _ _ _ N1 mv1 _ (by rw [List.append_assoc]; exact hN1) ((ha1 0 (by unfold m_rg; omega)).trans hn0) hc1 hw.2 (by rw [← hrun, s_work, if_pos hdue, hd]; simp) (Nat.le_trans hlq hl1) (by simp at hll ⊢; omega) (by rw [hmv1 hd, hmv]; simp only [List.length_append, List.length_cons, List.length_nil] at hll ⊢; (repeat' split) <;> first | rfl | omega) (fun j hj => (ha1 j hj).trans (hag j hj)) hB
        | true =>
          refine g_iload_n (q := 3) dX9_targets_2 rfl rfl ?_
          refine g_aload_n (q := 4) dX9_targets_3 rfl rfl ?_
          refine gb_getf (q := 7) (j := 0) (i := 0) dX9_targets_4 rfl fl_X9_7 hB rfl rfl rfl rfl ?_
          refine g_iconst (q := 8) (v := (nI 3)) dX9_targets_7 rfl (by decide) ?_
          refine g_iload_n (q := 9) dX9_targets_8 rfl rfl ?_
          refine g_iaddN (q := 10) dX9_targets_9 rfl ?_
          refine gb_ialdN (q := 11) (j := 0) (i := 1) dX9_targets_10 rfl hB rfl rfl rfl (by omega) (by decide) ?_
          refine g_eqi (v := nI (K.length + R.length + 1)) (hN.2.1.trans (by rw [← hlen])) ?_
          refine g_icmpN_ge (q := 14) (t := 101) dX9_targets_11 rfl (by decide) (by omega) (by omega) (fun c => absurd c (by omega)) (fun _ => ?_)
          refine g_iload_n (q := 15) dX9_targets_14 rfl rfl ?_
          refine g_iload_n (q := 16) dX9_targets_15 rfl rfl ?_
          refine g_callS (q := 19) dX9_targets_16 rfl ks_X9_240 rfl (c_held0 (s := s) (k := K.length)) (by decide) rfl (bz_le rfl) (by decide) (by decide) (fun r g1 hQ => ?_)
          obtain ⟨rfl, hg⟩ := hQ
          have hg := hg.symm
          subst hg
          refine g_istore_n (q := 20) rfl dX9_targets_19 rfl (by decide) rfl ?_
          refine g_aload_n (q := 21) dX9_targets_20 rfl rfl ?_
          refine gb_getf (q := 24) (j := 0) (i := 0) dX9_targets_21 rfl fl_X9_7 hB rfl rfl rfl rfl ?_
          refine g_iconst (q := 25) (v := (nI 0)) dX9_targets_24 rfl (by decide) ?_
          refine gb_ialdN (q := 26) (j := 0) (i := 1) dX9_targets_25 rfl hB rfl rfl rfl (by omega) (by decide) ?_
          refine g_eqi (v := nI (now)) (hn0) ?_
          refine g_aload_n (q := 27) dX9_targets_26 rfl rfl ?_
          refine gb_getf (q := 30) (j := 0) (i := 0) dX9_targets_27 rfl fl_X9_7 hB rfl rfl rfl rfl ?_
          refine g_iload_n (q := 31) dX9_targets_30 rfl rfl ?_
          refine g_bipush (q := 33) (v := (nI 12)) dX9_targets_31 rfl (by decide) ?_
          refine g_iaddN (q := 34) dX9_targets_33 rfl ?_
          refine gb_ialdN (q := 35) (j := 0) (i := 1) dX9_targets_34 rfl hB rfl rfl rfl (by omega) (by decide) ?_
          refine g_eqi (v := nI (ac)) (b1) ?_
          refine g_aload_n (q := 36) dX9_targets_35 rfl rfl ?_
          refine gb_getf (q := 39) (j := 0) (i := 0) dX9_targets_36 rfl fl_X9_7 hB rfl rfl rfl rfl ?_
          refine g_iload_n (q := 40) dX9_targets_39 rfl rfl ?_
          refine g_bipush (q := 42) (v := (nI 13)) dX9_targets_40 rfl (by decide) ?_
          refine g_iaddN (q := 43) dX9_targets_42 rfl ?_
          refine gb_ialdN (q := 44) (j := 0) (i := 1) dX9_targets_43 rfl hB rfl rfl rfl (by omega) (by decide) ?_
          refine g_eqi (v := nI (lt)) (b2) ?_
          refine g_iaddN (q := 45) dX9_targets_44 rfl ?_
          refine g_icmpN_le (q := 48) (t := 95) dX9_targets_45 rfl (by decide) (by omega) (by omega) (fun c => absurd c (by omega)) (fun _ => ?_)
          refine g_aload_n (q := 49) dX9_targets_48 rfl rfl ?_
          refine g_iload_n (q := 50) dX9_targets_49 rfl rfl ?_
          refine g_iload_n (q := 51) dX9_targets_50 rfl rfl ?_
          refine gb_callV (q := 54) (j := 0) (i := 0) dX9_targets_51 rfl kv_X9_289 (c_mworks (A := va_up A 1 N) (I := va_up I 24 mv) (P := (Q, K ++ x :: R, T, mem, P.2.2.2.2)) (p := K.length) (x := x) hs hN s_mid hw.1 hn0 hnow hrm hrm8 hcq hsp0 hsp (hB.1.at (j := 0) rfl)) rfl (by decide) hB rfl rfl rfl rfl (bz_le rfl) (by decide) (by decide) (fun r g1 hQ => ?_)
          obtain ⟨rfl, N1, mv1, h1, hN1, hmv1, hc1, hl1, ha1⟩ := hQ
          have hB := hB.sp (j := 0) rfl 0 rfl h1 (bz_le rfl)
          have hB : bz_B L g _ [(o, (b_Mod E o (va_up I 24 mv1) (va_up A 1 N1)))] := hB
          dsimp only at hN1 hmv1 hc1 hl1
          rw [s_mset] at hN1
          rw [hd]
          refine g_if_eq (q := 57) (t := 95) dX9_targets_54 rfl (by decide) (fun c => absurd c (by decide)) (fun _ => ?_)
          refine g_aload_n (q := 58) dX9_targets_57 rfl rfl ?_
          refine g_iload_n (q := 59) dX9_targets_58 rfl rfl ?_
          refine g_iconst (q := 60) (v := (nI 0)) dX9_targets_59 rfl (by decide) ?_
          refine g_callS (q := 63) dX9_targets_60 rfl ks_X9_240 rfl (c_held0 (s := s) (k := 0)) (by decide) rfl (bz_le rfl) (by decide) (by decide) (fun r g1 hQ => ?_)
          obtain ⟨rfl, hg⟩ := hQ
          have hg := hg.symm
          subst hg
          refine g_iload_n (q := 64) dX9_targets_63 rfl rfl ?_
          refine g_aload_n (q := 65) dX9_targets_64 rfl rfl ?_
          refine gb_getf (q := 68) (j := 0) (i := 0) dX9_targets_65 rfl fl_X9_7 hB rfl rfl rfl rfl ?_
          refine g_iconst (q := 69) (v := (nI 3)) dX9_targets_68 rfl (by decide) ?_
          refine g_iload_n (q := 70) dX9_targets_69 rfl rfl ?_
          refine g_iaddN (q := 71) dX9_targets_70 rfl ?_
          refine gb_ialdN (q := 72) (j := 0) (i := 1) dX9_targets_71 rfl hB rfl rfl rfl (by omega) (by decide) ?_
          refine g_eqi (v := nI (K.length + R.length + 1)) (hN1.2.1.trans (by rw [← hlen]; simp)) ?_
          refine gb_callV (q := 75) (j := 0) (i := 0) dX9_targets_72 rfl kv_X9_292 (c_mleaves (k := K.length) (n := K.length + R.length + 1) (by omega) (by omega) (hB.1.at (j := 0) rfl)) rfl (by decide) hB rfl rfl rfl rfl (bz_le rfl) (by decide) (by decide) (fun r g1 hQ => ?_)
          obtain ⟨rfl, h1⟩ := hQ
          have hB := hB.sp (j := 0) rfl 0 rfl h1 (bz_le rfl)
          refine g_aload_n (q := 76) dX9_targets_75 rfl rfl ?_
          refine gb_getf (q := 79) (j := 0) (i := 0) dX9_targets_76 rfl fl_X9_7 hB rfl rfl rfl rfl ?_
          refine g_iconst (q := 80) (v := (nI 3)) dX9_targets_79 rfl (by decide) ?_
          refine g_iload_n (q := 81) dX9_targets_80 rfl rfl ?_
          refine g_iaddN (q := 82) dX9_targets_81 rfl ?_
          refine g_dup2 (q := 83) dX9_targets_82 rfl rfl rfl ?_
          refine gb_ialdN (q := 84) (j := 0) (i := 1) dX9_targets_83 rfl hB rfl rfl rfl (by omega) (by decide) ?_
          refine g_eqi (v := nI (K.length + R.length + 1)) ((m_lv_ag (by omega)).trans (hN1.2.1.trans (by rw [← hlen]; simp))) ?_
          refine g_iconst (q := 85) (v := (nI 1)) dX9_targets_84 rfl (by decide) ?_
          refine g_isubN (q := 86) dX9_targets_85 rfl (by omega) ?_
          refine gb_iastN (q := 87) (j := 0) (i := 1) dX9_targets_86 rfl hB rfl rfl rfl (by omega) (by decide) (fun g hB => ?_)
          refine g_aload_n (q := 88) dX9_targets_87 rfl rfl ?_
          refine g_iconst (q := 89) (v := (nI 1)) dX9_targets_88 rfl (by decide) ?_
          refine gb_putf (q := 92) (j := 0) (i := 0) dX9_targets_89 rfl fp_X9_285 hB rfl rfl rfl (bz_le rfl) rfl rfl (fun g hB => ?_)
          refine g_goto (q := 98) dX9_targets_92 (by decide) ?_
          refine g_goto (q := 2) dX9_targets_98 (by decide) ?_
          refine g_lvs (lv1 := [(2, .int (nI K.length)), (0, .ref o), (1, .int (nI s))]) ⟨rfl, rfl, rfl, trivial⟩ ?_
          have hN2 := m_sd_hlv (p := K.length) (n := K.length + R.length + 1) hs hN1 (by rw [← hlen]; simp) (by omega)
          dsimp only at hN2
          rw [s_mer] at hN2
          exact ih K _ _ _ _ (nI 1) _ hN2 (by rw [upd_ne (by omega), m_lv_ag (by omega)]; exact ((ha1 0 (by unfold m_rg; omega)).trans hn0)) hc1 hw.2 (by rw [← hrun, s_work, if_pos hdue, hd]; simp) (Nat.le_trans hlq hl1) (by simp at hll ⊢; omega) (by rw [if_neg]; simp at hll ⊢; omega) (fun j hj => by rw [upd_ne (by unfold m_rg at hj; omega), m_lv_ag (by unfold m_rg at hj; omega)]; exact (ha1 j hj).trans (hag j hj)) hB
      ·
        refine g_iload_n (q := 3) dX9_targets_2 rfl rfl ?_
        refine g_aload_n (q := 4) dX9_targets_3 rfl rfl ?_
        refine gb_getf (q := 7) (j := 0) (i := 0) dX9_targets_4 rfl fl_X9_7 hB rfl rfl rfl rfl ?_
        refine g_iconst (q := 8) (v := (nI 3)) dX9_targets_7 rfl (by decide) ?_
        refine g_iload_n (q := 9) dX9_targets_8 rfl rfl ?_
        refine g_iaddN (q := 10) dX9_targets_9 rfl ?_
        refine gb_ialdN (q := 11) (j := 0) (i := 1) dX9_targets_10 rfl hB rfl rfl rfl (by omega) (by decide) ?_
        refine g_eqi (v := nI (K.length + R.length + 1)) (hN.2.1.trans (by rw [← hlen])) ?_
        refine g_icmpN_ge (q := 14) (t := 101) dX9_targets_11 rfl (by decide) (by omega) (by omega) (fun c => absurd c (by omega)) (fun _ => ?_)
        refine g_iload_n (q := 15) dX9_targets_14 rfl rfl ?_
        refine g_iload_n (q := 16) dX9_targets_15 rfl rfl ?_
        refine g_callS (q := 19) dX9_targets_16 rfl ks_X9_240 rfl (c_held0 (s := s) (k := K.length)) (by decide) rfl (bz_le rfl) (by decide) (by decide) (fun r g1 hQ => ?_)
        obtain ⟨rfl, hg⟩ := hQ
        have hg := hg.symm
        subst hg
        refine g_istore_n (q := 20) rfl dX9_targets_19 rfl (by decide) rfl ?_
        refine g_aload_n (q := 21) dX9_targets_20 rfl rfl ?_
        refine gb_getf (q := 24) (j := 0) (i := 0) dX9_targets_21 rfl fl_X9_7 hB rfl rfl rfl rfl ?_
        refine g_iconst (q := 25) (v := (nI 0)) dX9_targets_24 rfl (by decide) ?_
        refine gb_ialdN (q := 26) (j := 0) (i := 1) dX9_targets_25 rfl hB rfl rfl rfl (by omega) (by decide) ?_
        refine g_eqi (v := nI (now)) (hn0) ?_
        refine g_aload_n (q := 27) dX9_targets_26 rfl rfl ?_
        refine gb_getf (q := 30) (j := 0) (i := 0) dX9_targets_27 rfl fl_X9_7 hB rfl rfl rfl rfl ?_
        refine g_iload_n (q := 31) dX9_targets_30 rfl rfl ?_
        refine g_bipush (q := 33) (v := (nI 12)) dX9_targets_31 rfl (by decide) ?_
        refine g_iaddN (q := 34) dX9_targets_33 rfl ?_
        refine gb_ialdN (q := 35) (j := 0) (i := 1) dX9_targets_34 rfl hB rfl rfl rfl (by omega) (by decide) ?_
        refine g_eqi (v := nI (ac)) (b1) ?_
        refine g_aload_n (q := 36) dX9_targets_35 rfl rfl ?_
        refine gb_getf (q := 39) (j := 0) (i := 0) dX9_targets_36 rfl fl_X9_7 hB rfl rfl rfl rfl ?_
        refine g_iload_n (q := 40) dX9_targets_39 rfl rfl ?_
        refine g_bipush (q := 42) (v := (nI 13)) dX9_targets_40 rfl (by decide) ?_
        refine g_iaddN (q := 43) dX9_targets_42 rfl ?_
        refine gb_ialdN (q := 44) (j := 0) (i := 1) dX9_targets_43 rfl hB rfl rfl rfl (by omega) (by decide) ?_
        refine g_eqi (v := nI (lt)) (b2) ?_
        refine g_iaddN (q := 45) dX9_targets_44 rfl ?_
        refine g_icmpN_le (q := 48) (t := 95) dX9_targets_45 rfl (by decide) (by omega) (by omega) (fun _ => ?_) (fun c => absurd c (by omega))
        refine g_iincN (q := 98) (c := 1) dX9_targets_95 rfl (by decide) rfl rfl (by decide) ?_
        refine g_goto (q := 2) dX9_targets_98 (by decide) ?_
        refine g_lvs (lv1 := [(2, .int (nI (K.length + 1))), (0, .ref o), (1, .int (nI s))]) ⟨rfl, rfl, rfl, trivial⟩ ?_
        refine g_lvs (lv1 := [(2, .int (nI (K ++ [x]).length)), (0, .ref o), (1, .int (nI s))]) ⟨by rw [List.length_append]; rfl, rfl, rfl, trivial⟩ ?_
        exact ih (K ++ [x]) Q T mem N mv _ (by rw [List.append_assoc]; exact hN) hn0 hcq (by rw [s_wok, if_neg hdue] at hw; exact hw) (by rw [← hrun, s_work, if_neg hdue]; simp) hlq (by rw [List.append_assoc]; exact hll) (by rw [List.append_assoc]; exact hmv) hag hB
  refine g_iconst (q := 1) (v := (nI 0)) dX9_targets_0 rfl (by decide) ?_
  refine g_istore_n (q := 2) rfl dX9_targets_1 rfl (by decide) rfl ?_
  refine g_lvs (lv1 := [(2, .int (nI 0)), (0, .ref o), (1, .int (nI s))]) ⟨rfl, rfl, rfl, trivial⟩ ?_
  exact KK P.2.1 [] P.1 P.2.2.1 P.2.2.2.1 (A 1) (I 24) g hP hnow0 hcnt hwok rfl (Nat.le_refl _) (Nat.le_refl _) (by rw [if_pos ⟨rfl, rfl⟩]) (fun j _ => rfl) hB
