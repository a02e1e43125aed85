/-! the class: run -/
theorem s_idle_le {pl : Pl} {most : Nat} {σ : Si} (h : 1 ≤ most) : 1 + s_idle pl most σ ≤ most := by
  unfold s_idle
  split
  · omega
  · have := Nat.min_le_left (most - 1) (s_dueS (s_tick pl σ) - 1 - (s_tick pl σ).1)
    omega
abbrev w_pv (r : PLR) (v0 v1 : Nat → Int32) : PLR := (r.1, r.2.1, r.2.2.1, r.2.2.2.1, v0, r.2.2.2.2.2.1, r.2.2.2.2.2.2.1, v1, r.2.2.2.2.2.2.2.2)
theorem w_pv_rep {r : PLR} {D : Pl} {v0 v1 : Nat → Int32} (h : d_rep r D) : d_rep (w_pv r v0 v1) D := h
theorem w_adv {E : bz_E} {L : List Nat} {g0 g g1 : Nat → va_E} {o : Nat} {A : WA} {R : WR} {r1 : SR} {v0 v1 : Nat → Int32} (hB : bz_B L g0 g (w_bs E o A R)) (h1 : bz_B L g g1 [(o + 27, b_Sit E (o + 27) r1), (R.p, b_PL E R.p (w_pv R.rp v0 v1))]) : bz_B L g0 g1 (w_bs E o A ((R.u_rS r1).u_rp (w_pv R.rp v0 v1))) := by
  obtain ⟨gm, m1, m2⟩ := bz_B.mid (hB.1.at (j := 5) rfl) (by rfl) h1
  have hB1 : bz_B _ _ _ (w_bs E o A (R.u_rS r1)) := w_B1 (j := 5) hB rfl m1 rfl
  exact w_B1 (j := 3) hB1 rfl m2 rfl

set_option maxRecDepth 20000 in
set_option maxHeartbeats 1000000 in
theorem c8_run0 {l : Launch} {E : bz_E} {L : List Nat} {g : Nat → va_E} {o : Nat} {A : WA} {t : Nat} (hd : d_ok A.D) (hin : s_inv A.D A.s) (ht : 1 ≤ t ∧ t ≤ 300) (hnow : A.s.1 + t ≤ 9999) (hX : w_X E L g o A) : bz_K l E mX8_run 7 [.ref o, .int (nI t)] L g (fun r g1 => r = some (.int (nI (s_fw (s_run A.D t A.s)) - nI (s_fw A.s))) ∧ ∃ τ : Si, s_like A.s τ ∧ w_P E L g o ((A.u_hs (s_kp A.hs τ)).u_s (s_run A.D t A.s)) g1) := by
  refine bz_K.of (by decide) (bz_le rfl) (fun sz => ?_)
  have K : ∀ (τ : Si), s_like A.s τ → ∀ (m i dn : Nat) (R : WR) (g1 : Nat → va_E), i + m = t → i ≤ dn → dn ≤ t → bz_B L g g1 (w_bs E o ((A.u_hs (s_kp A.hs τ)).u_s (s_run A.D dn A.s)) R) → w_ok E o ((A.u_hs (s_kp A.hs τ)).u_s (s_run A.D dn A.s)) R → bz_G l E mX8_run (bz_R 7 0 0) L sz (bz_Fm E L sz (fun r g1 => r = some (.int (nI (s_fw (s_run A.D t A.s)) - nI (s_fw A.s))) ∧ ∃ τ : Si, s_like A.s τ ∧ w_P E L g o ((A.u_hs (s_kp A.hs τ)).u_s (s_run A.D t A.s)) g1)) sz 0 0 L g1 71 [(4, .int (nI i)), (3, .int (nI dn)), (2, .int (nI (s_fw A.s))), (0, .ref o), (1, .int (nI t))] [] := by
    intro τ hlk m
    induction m with
    | zero =>
      intro i dn R g1 hi hle hdt hB hk
      have hit : i = t := by omega
      have hdn : dn = t := by omega
      subst hit
      subst hdn
      obtain ⟨hn6, hb6, hpq, hT, hD, hS, hnw, hlen, hrg, hs0, hs1⟩ := id hk
      refine g_iload (q := 73) dX8_run_71 rfl rfl ?_
      refine g_iload_n (q := 74) dX8_run_73 rfl rfl ?_
      refine g_icmpN_ge (q := 77) (t := 105) dX8_run_74 rfl (by decide) (by omega) (by omega) (fun _ => ?_) (fun c => absurd c (by omega))
      refine g_aload_n (q := 106) dX8_run_105 rfl rfl ?_
      refine gb_getf (q := 109) (j := 0) (i := 0) dX8_run_106 rfl fl_X8_33 hB rfl rfl rfl rfl ?_
      refine gb_callV (q := 112) (j := 5) (i := 0) dX8_run_109 rfl kv_X8_233 (c_forwardedInAll hS (hB.1.at (j := 5) rfl)) rfl (by decide) hB rfl rfl rfl rfl (bz_le rfl) (by decide) (by decide) (fun r g1 hQ => ?_)
      obtain ⟨rfl, hg⟩ := hQ
      have hg := hg.symm
      subst hg
      refine g_iload_n (q := 113) dX8_run_112 rfl rfl ?_
      refine g_isub (q := 114) dX8_run_113 rfl ?_
      exact g_iret dX8_run_114 rfl (⟨rfl, τ, hlk, w_to hB hk⟩)
    | succ m ih =>
      intro i dn R g1 hi hle hdt hB hk
      obtain ⟨hn6, hb6, hpq, hT, hD, hS, hnw, hlen, hrg, hs0, hs1⟩ := id hk
      by_cases hdn : dn = t
      · subst hdn
        refine g_iload (q := 73) dX8_run_71 rfl rfl ?_
        refine g_iload_n (q := 74) dX8_run_73 rfl rfl ?_
        refine g_icmpN_ge (q := 77) (t := 105) dX8_run_74 rfl (by decide) (by omega) (by omega) (fun c => absurd c (by omega)) (fun _ => ?_)
        refine g_iload_n (q := 78) dX8_run_77 rfl rfl ?_
        refine g_iload_n (q := 79) dX8_run_78 rfl rfl ?_
        refine g_icmpN_ge (q := 82) (t := 105) dX8_run_79 rfl (by decide) (by omega) (by omega) (fun _ => ?_) (fun c => absurd c (by omega))
        refine g_aload_n (q := 106) dX8_run_105 rfl rfl ?_
        refine gb_getf (q := 109) (j := 0) (i := 0) dX8_run_106 rfl fl_X8_33 hB rfl rfl rfl rfl ?_
        refine gb_callV (q := 112) (j := 5) (i := 0) dX8_run_109 rfl kv_X8_233 (c_forwardedInAll hS (hB.1.at (j := 5) rfl)) rfl (by decide) hB rfl rfl rfl rfl (bz_le rfl) (by decide) (by decide) (fun r g1 hQ => ?_)
        obtain ⟨rfl, hg⟩ := hQ
        have hg := hg.symm
        subst hg
        refine g_iload_n (q := 113) dX8_run_112 rfl rfl ?_
        refine g_isub (q := 114) dX8_run_113 rfl ?_
        exact g_iret dX8_run_114 rfl (⟨rfl, τ, hlk, w_to hB hk⟩)
      ·
          have hin2 := hin.run (pl := A.D) hd.2.2.1.1 dn
          refine g_iload (q := 73) dX8_run_71 rfl rfl ?_
          refine g_iload_n (q := 74) dX8_run_73 rfl rfl ?_
          refine g_icmpN_ge (q := 77) (t := 105) dX8_run_74 rfl (by decide) (by omega) (by omega) (fun c => absurd c (by omega)) (fun _ => ?_)
          refine g_iload_n (q := 78) dX8_run_77 rfl rfl ?_
          refine g_iload_n (q := 79) dX8_run_78 rfl rfl ?_
          refine g_icmpN_ge (q := 82) (t := 105) dX8_run_79 rfl (by decide) (by omega) (by omega) (fun c => absurd c (by omega)) (fun _ => ?_)
          refine g_iload_n (q := 83) dX8_run_82 rfl rfl ?_
          refine g_aload_n (q := 84) dX8_run_83 rfl rfl ?_
          refine gb_getf (q := 87) (j := 0) (i := 0) dX8_run_84 rfl fl_X8_33 hB rfl rfl rfl rfl ?_
          refine g_aload_n (q := 88) dX8_run_87 rfl rfl ?_
          refine gb_getf (q := 91) (j := 0) (i := 0) dX8_run_88 rfl fl_X8_23 hB rfl rfl rfl rfl ?_
          refine g_iload_n (q := 92) dX8_run_91 rfl rfl ?_
          refine g_iload_n (q := 93) dX8_run_92 rfl rfl ?_
          refine g_isubN (q := 94) dX8_run_93 rfl (by omega) ?_
          refine gb_callV (q := 97) (j := 5) (i := 0) dX8_run_94 rfl kv_X8_212 (c_advance (o := o + 27) (p := R.p) (most := t - dn) (r0 := R.rS) (σ := s_run A.D dn A.s) (pl := A.D) hS (by rw [s_run1]; omega) ⟨by omega, by omega⟩ hin2.1 hin2.2.1 (hD.lpl hd) (w_pick2 hB.1 5 3 rfl rfl (by decide))) rfl (by decide) hB rfl rfl rfl rfl (bz_le rfl) (by decide) (by decide) (fun r g1 hQ => ?_)
          obtain ⟨rfl, r1, v0', v1', h1, hs1', hmv⟩ := hQ
          have hB := w_adv (r1 := r1) (v0 := v0') (v1 := v1') hB h1
          have hrun := (s_idle_run (pl := A.D) (most := t - dn) (σ := s_run A.D dn A.s)).1
          rw [← hrun, ← s_run_add] at hs1'
          have hidle := s_idle_le (pl := A.D) (σ := s_run A.D dn A.s) (show 1 ≤ t - dn by omega)
          generalize hid : s_idle A.D (t - dn) (s_run A.D dn A.s) = id9 at *
          refine g_iaddN (q := 98) dX8_run_97 rfl ?_
          refine g_istore_n (q := 99) rfl dX8_run_98 rfl (by decide) rfl ?_
          refine g_iincN (q := 102) (c := 1) dX8_run_99 rfl (by decide) rfl rfl (by decide) ?_
          refine g_goto (q := 71) dX8_run_102 (by decide) ?_
          refine g_lvs (lv1 := [(4, .int (nI (i + 1))), (3, .int (nI (dn + (1 + id9)))), (2, .int (nI (s_fw A.s))), (0, .ref o), (1, .int (nI t))]) ⟨rfl, rfl, rfl, rfl, rfl, trivial⟩ ?_
          exact ih (i + 1) (dn + (1 + id9)) ((R.u_rS r1).u_rp (w_pv R.rp v0' v1')) _ (by omega) (by omega) (by omega) hB ⟨hn6, hb6, hpq, hT, w_pv_rep hD, hs1', hnw, hlen, hrg, hs0, hs1⟩
  obtain ⟨R, hW, hk⟩ := hX
  have hB := bz_B.rf hW
  obtain ⟨hn6, hb6, hpq, hT, hD, hS, hnw, hlen, hrg, hs0, hs1⟩ := id hk
  show bz_G _ _ _ _ _ _ _ _ _ _ _ _ 0 [(0, .ref o), (1, .int (nI t))] []
  refine g_iload_n (q := 1) dX8_run_0 rfl rfl ?_
  refine g_iconst (q := 2) (v := (nI 1)) dX8_run_1 rfl (by decide) ?_
  refine g_icmpN_lt (q := 5) (t := 12) dX8_run_2 rfl (by decide) (by omega) (by omega) (fun c => absurd c (by omega)) (fun _ => ?_)
  refine g_iload_n (q := 6) dX8_run_5 rfl rfl ?_
  refine g_sipush (q := 9) (v := (nI 300)) dX8_run_6 rfl (by decide) ?_
  refine g_icmpN_le (q := 12) (t := 22) dX8_run_9 rfl (by decide) (by omega) (by omega) (fun _ => ?_) (fun c => absurd c (by omega))
  refine g_aload_n (q := 23) dX8_run_22 rfl rfl ?_
  refine gb_getf (q := 26) (j := 0) (i := 0) dX8_run_23 rfl fl_X8_33 hB rfl rfl rfl rfl ?_
  refine gb_getf (q := 29) (j := 5) (i := 0) dX8_run_26 rfl fl_X8_98 hB rfl rfl rfl rfl ?_
  refine g_eqi (v := nI (A.s.1)) (hS.1) ?_
  refine g_iload_n (q := 30) dX8_run_29 rfl rfl ?_
  refine g_iaddN (q := 31) dX8_run_30 rfl ?_
  refine g_sipush (q := 34) (v := (nI 9999)) dX8_run_31 rfl (by decide) ?_
  refine g_icmpN_le (q := 37) (t := 47) dX8_run_34 rfl (by decide) (by omega) (by omega) (fun _ => ?_) (fun c => absurd c (by omega))
  refine g_aload_n (q := 48) dX8_run_47 rfl rfl ?_
  refine gb_getf (q := 51) (j := 0) (i := 0) dX8_run_48 rfl fl_X8_43 hB rfl rfl rfl rfl ?_
  refine g_aload_n (q := 52) dX8_run_51 rfl rfl ?_
  refine gb_getf (q := 55) (j := 0) (i := 0) dX8_run_52 rfl fl_X8_33 hB rfl rfl rfl rfl ?_
  refine gb_callV (q := 58) (j := 7) (i := 0) dX8_run_55 rfl kv_X8_230 (c_remember (o := o + 81) (y := o + 27) (n := R.nw) (ct := A.hs.length) (r0 := R.rB (s_nx R.nw)) (r2 := R.rS) (σ := A.s) hnw hlen (h_f_at (s_nx_lt _)) hS (w_pick3 hB.1 7 (8 + s_nx R.nw) 5 rfl (w_bs_at (s_nx_lt _)) rfl (by omega) (by decide) (by omega))) rfl (by decide) hB rfl rfl rfl rfl (bz_le rfl) (by decide) (by decide) (fun r g1 hQ => ?_)
  obtain ⟨rfl, h1⟩ := hQ
  obtain ⟨τ, nw1, rB1, hlk, hB, hk1⟩ := w_rem hW hk h1
  obtain ⟨hn6, hb6, hpq, hT, hD, hS, hnw, hlen, hrg, hs0, hs1⟩ := hk1
  refine g_aload_n (q := 59) dX8_run_58 rfl rfl ?_
  refine gb_getf (q := 62) (j := 0) (i := 0) dX8_run_59 rfl fl_X8_33 hB rfl rfl rfl rfl ?_
  refine gb_callV (q := 65) (j := 5) (i := 0) dX8_run_62 rfl kv_X8_233 (c_forwardedInAll hS (hB.1.at (j := 5) rfl)) rfl (by decide) hB rfl rfl rfl rfl (bz_le rfl) (by decide) (by decide) (fun r g1 hQ => ?_)
  obtain ⟨rfl, hg⟩ := hQ
  have hg := hg.symm
  subst hg
  refine g_istore_n (q := 66) rfl dX8_run_65 rfl (by decide) rfl ?_
  refine g_iconst (q := 67) (v := (nI 0)) dX8_run_66 rfl (by decide) ?_
  refine g_istore_n (q := 68) rfl dX8_run_67 rfl (by decide) rfl ?_
  refine g_iconst (q := 69) (v := (nI 0)) dX8_run_68 rfl (by decide) ?_
  refine g_istore (q := 71) dX8_run_69 rfl (by decide) rfl ?_
  refine g_lvs (lv1 := [(4, .int (nI 0)), (3, .int (nI 0)), (2, .int (nI (s_fw A.s))), (0, .ref o), (1, .int (nI t))]) ⟨rfl, rfl, rfl, rfl, rfl, trivial⟩ ?_
  exact K τ hlk t 0 0 ((R.u_nw nw1).u_rB rB1) _ (by omega) (Nat.le_refl _) (by omega) hB ⟨hn6, hb6, hpq, hT, hD, hS, hnw, hlen, hrg, hs0, hs1⟩
set_option maxRecDepth 20000 in
set_option maxHeartbeats 1000000 in
theorem c8_run2 {l : Launch} {E : bz_E} {L : List Nat} {g : Nat → va_E} {o : Nat} {v : Int32} (hl : l.stackTraces = false) (hb : (if v < nI 1 then (0 : Int32) else if nI 300 < v then 0 else 1) = nI 0) : bz_KX l E mX8_run 6 [.ref o, .int v] L g x_IAE := by
  refine bz_KX.of (by decide) (bz_le rfl) (fun sz => ?_)
  show bz_G _ _ _ _ _ _ _ _ _ _ _ _ 0 [(0, .ref o), (1, .int v)] []
  refine g_iload_n (q := 1) dX8_run_0 rfl rfl ?_
  refine g_iconst (q := 2) (v := (nI 1)) dX8_run_1 rfl (by decide) ?_
  refine g_icmp_lt (q := 5) (t := 12) dX8_run_2 rfl (by decide) (fun c_2 => ?_) (fun c_2 => ?_)
  · exact g_throw (is := 226) (tx := "1 to 300 ticks") (i := 18) hl rfl (by decide +kernel) (by decide) tx_IAE xk_IAE (by decide +kernel) (bz_le rfl) dX8_run_12 dX8_run_15 dX8_run_16 dX8_run_18 dX8_run_21
  · refine g_iload_n (q := 6) dX8_run_5 rfl rfl ?_
    refine g_sipush (q := 9) (v := (nI 300)) dX8_run_6 rfl (by decide) ?_
    refine g_icmp_le (q := 12) (t := 22) dX8_run_9 rfl (by decide) (fun c_9 => ?_) (fun c_9 => ?_)
    · exact absurd ((if_neg c_2).symm.trans hb) (by rw [if_neg (Int32.not_lt.mpr c_9)]; decide)
    · exact g_throw (is := 226) (tx := "1 to 300 ticks") (i := 18) hl rfl (by decide +kernel) (by decide) tx_IAE xk_IAE (by decide +kernel) (bz_le rfl) dX8_run_12 dX8_run_15 dX8_run_16 dX8_run_18 dX8_run_21
set_option maxRecDepth 20000 in
set_option maxHeartbeats 1000000 in
theorem c8_run1 {l : Launch} {E : bz_E} {L : List Nat} {g : Nat → va_E} {o : Nat} {A : WA} {t : Nat} (hl : l.stackTraces = false) (ht : 1 ≤ t ∧ t ≤ 300) (hnow : A.s.1 < 20000) (hb : 9999 < A.s.1 + t) (hX : w_X E L g o A) : bz_KX l E mX8_run 6 [.ref o, .int (nI t)] L g x_ISE := by
  refine bz_KX.of (by decide) (bz_le rfl) (fun sz => ?_)
  obtain ⟨R, hW, hk⟩ := hX
  have hB := bz_B.rf hW
  obtain ⟨hn6, hb6, hpq, hT, hD, hS, hnw, hlen, hrg, hs0, hs1⟩ := hk
  show bz_G _ _ _ _ _ _ _ _ _ _ _ _ 0 [(0, .ref o), (1, .int (nI t))] []
  refine g_iload_n (q := 1) dX8_run_0 rfl rfl ?_
  refine g_iconst (q := 2) (v := (nI 1)) dX8_run_1 rfl (by decide) ?_
  refine g_icmpN_lt (q := 5) (t := 12) dX8_run_2 rfl (by decide) (by omega) (by omega) (fun c => absurd c (by omega)) (fun _ => ?_)
  refine g_iload_n (q := 6) dX8_run_5 rfl rfl ?_
  refine g_sipush (q := 9) (v := (nI 300)) dX8_run_6 rfl (by decide) ?_
  refine g_icmpN_le (q := 12) (t := 22) dX8_run_9 rfl (by decide) (by omega) (by omega) (fun _ => ?_) (fun c => absurd c (by omega))
  refine g_aload_n (q := 23) dX8_run_22 rfl rfl ?_
  refine gb_getf (q := 26) (j := 0) (i := 0) dX8_run_23 rfl fl_X8_33 hB rfl rfl rfl rfl ?_
  refine gb_getf (q := 29) (j := 5) (i := 0) dX8_run_26 rfl fl_X8_98 hB rfl rfl rfl rfl ?_
  refine g_eqi (v := nI (A.s.1)) (hS.1) ?_
  refine g_iload_n (q := 30) dX8_run_29 rfl rfl ?_
  refine g_iaddN (q := 31) dX8_run_30 rfl ?_
  refine g_sipush (q := 34) (v := (nI 9999)) dX8_run_31 rfl (by decide) ?_
  refine g_icmpN_le (q := 37) (t := 47) dX8_run_34 rfl (by decide) (by omega) (by omega) (fun c => absurd c (by omega)) (fun _ => ?_)
  exact g_throw (is := 228) (tx := "the last tick is 9999") (i := 19) hl rfl (by decide +kernel) (by decide) tx_ISE xk_ISE (by decide +kernel) (bz_le rfl) dX8_run_37 dX8_run_40 dX8_run_41 dX8_run_43 dX8_run_46
