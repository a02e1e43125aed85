/-! the class: ticksToRest, isStuck -/
theorem w_advF {E : bz_E} {L : List Nat} {g0 g g1 : Nat → va_E} {o : Nat} {A : WA} {R : WR} {r1 : SR} {v0 v1 : Nat → Int32} (hB : bz_B L g0 g (w_bs E o A R)) (h1 : bz_B L g g1 [(o + 54, b_Sit E (o + 54) r1), (R.p, b_PL E R.p (w_pv R.rp v0 v1))]) : bz_B L g0 g1 (w_bs E o A ((R.u_rF r1).u_rp (w_pv R.rp v0 v1))) := by
  obtain ⟨gm, m1, m2⟩ := bz_B.mid (hB.1.at (j := 6) rfl) (by rfl) h1
  have hB1 : bz_B _ _ _ (w_bs E o A (R.u_rF r1)) := w_B1 (j := 6) hB rfl m1 rfl
  exact w_B1 (j := 3) hB1 rfl m2 rfl
theorem s_like.inv {pl : Pl} {σ τ : Si} (h : s_like σ τ) (hi : s_inv pl σ) : s_inv pl τ := by
  obtain ⟨m0, m1, rfl⟩ := h
  exact hi
theorem s_like.hb {σ τ : Si} (h : s_like σ τ) (hi : s_hb σ) : s_hb τ := by
  obtain ⟨m0, m1, rfl⟩ := h
  exact hi
theorem s_like.t2 {σ τ : Si} (h : s_like σ τ) (hi : s_t2 σ) : s_t2 τ := by
  obtain ⟨m0, m1, rfl⟩ := h
  exact hi
theorem s_like.tm {σ τ : Si} (h : s_like σ τ) : τ.1 = σ.1 := by
  obtain ⟨m0, m1, rfl⟩ := h
  rfl
theorem s_idle_mv {pl : Pl} {most : Nat} {σ : Si} (h : s_moved pl σ = true) : s_idle pl most σ = 0 := by
  unfold s_idle
  rw [if_pos h]
theorem s_last_mv {pl : Pl} {σ : Si} {n : Nat} (h : s_moved pl (s_run pl n σ) = true) : s_last pl σ (n + 1) = n + 1 := by
  show (if s_moved pl (s_run pl n σ) then n + 1 else s_last pl σ n) = n + 1
  rw [if_pos h]
theorem s_last_id {pl : Pl} {σ : Si} {n most : Nat} (h : s_moved pl (s_run pl n σ) = false) : s_last pl σ (n + (1 + s_idle pl most (s_run pl n σ))) = s_last pl σ n := by
  refine s_last_q pl σ n _ (fun k h1 h2 => ?_)
  have := (s_idle_run (pl := pl) (most := most) (σ := s_run pl n σ)).2 h (k - n) (by omega)
  rw [← s_run_add, show n + (k - n) = k by omega] at this
  exact this

set_option maxRecDepth 20000 in
set_option maxHeartbeats 1000000 in
theorem c8_ticksToRest {l : Launch} {E : bz_E} {L : List Nat} {g : Nat → va_E} {o : Nat} {A : WA} {N : Nat} (hN : N = 560) (hd : d_ok A.D) (hin : s_inv A.D A.s) (hhb : s_hb A.s) (hnow : A.s.1 < 20000) (hX : w_X E L g o A) : bz_K l E mX8_ticksToRest 7 [.ref o] L g (fun r g1 => ∃ τ : Si, s_like A.s τ ∧ (∀ ls, s_last A.D τ N = ls → r = some (.int (if 500 < ls then -1 else nI ls))) ∧ ∃ R1 : WR, bz_B L g g1 (w_bs E o A R1) ∧ w_ok E o A R1 ∧ (s_last A.D τ N ≤ 500 → ∃ σf : Si, s_srep R1.rF σf ∧ σf.2 = (s_run A.D N τ).2)) := by
  refine bz_K.of (by decide) (bz_le rfl) (fun sz => ?_)
  have K : ∀ (τ : Si), s_like A.s τ → s_inv A.D τ → s_hb τ → ∀ (m i tk la : Nat) (R : WR) (g1 : Nat → va_E), i + m = 551 → i ≤ tk → s_last A.D τ tk = la → tk ≤ 602 → (500 < la → tk ≤ 560) → bz_B L g g1 (w_bs E o A R) → w_ok E o A R → s_srep R.rF (s_run A.D tk τ) → bz_G l E mX8_ticksToRest (bz_R 7 0 0) L sz (bz_Fm E L sz (fun r g1 => ∃ τ : Si, s_like A.s τ ∧ (∀ ls, s_last A.D τ N = ls → r = some (.int (if 500 < ls then -1 else nI ls))) ∧ ∃ R1 : WR, bz_B L g g1 (w_bs E o A R1) ∧ w_ok E o A R1 ∧ (s_last A.D τ N ≤ 500 → ∃ σf : Si, s_srep R1.rF σf ∧ σf.2 = (s_run A.D N τ).2))) sz 0 0 L g1 28 [(5, .int (nI i)), (4, .int (nI (500 + 51))), (3, .int (nI la)), (2, .int (nI tk)), (1, .int (nI 51)), (0, .ref o)] [] := by
    intro τ hlk hin hhb m
    have htm := hlk.tm
    induction m with
    | zero =>
      intro i tk la R g1 hi hle hla htk h56 hB hk hF
      have hsl := s_last_le A.D τ tk
      by_cases h5 : 500 < la
      · have hbig : 500 < s_last A.D τ N := by have h3 := s_last_mono A.D τ tk (N - tk); rw [show tk + (N - tk) = N by omega] at h3; omega
        have hv : ∀ ls, s_last A.D τ N = ls → (if 500 < ls then (-1 : Int32) else nI ls) = -1 := fun ls h => if_pos (by omega)
        have hrest : s_last A.D τ N ≤ 500 → ∃ σf : Si, s_srep R.rF σf ∧ σf.2 = (s_run A.D N τ).2 := fun h => absurd h (by omega)
        refine g_iload (q := 30) dX8_ticksToRest_28 rfl rfl ?_
        refine g_iload (q := 32) dX8_ticksToRest_30 rfl rfl ?_
        refine g_icmpN_ge (q := 35) (t := 82) dX8_ticksToRest_32 rfl (by decide) (by omega) (by omega) (fun _ => ?_) (fun c => absurd c (by omega))
        refine g_iload_n (q := 83) dX8_ticksToRest_82 rfl rfl ?_
        refine g_sipush (q := 86) (v := (nI 500)) dX8_ticksToRest_83 rfl (by decide) ?_
        refine g_icmpN_gt (q := 89) (t := 93) dX8_ticksToRest_86 rfl (by decide) (by omega) (by omega) (fun _ => ?_) (fun c => absurd c (by omega))
        refine g_iconst (q := 94) (v := (-1)) dX8_ticksToRest_93 rfl (by decide) ?_
        exact g_iret dX8_ticksToRest_94 rfl (⟨τ, hlk, fun ls h => congrArg (fun z => some (Value.int z)) (hv ls h).symm, R, hB, hk, hrest⟩)
      · have hend := s_last_end (pl := A.D) hhb (t := tk) (by omega) N (by omega)
        have hv : ∀ ls, s_last A.D τ N = ls → (if 500 < ls then (-1 : Int32) else nI ls) = nI la := fun ls h => by rw [← h, hend.1, hla, if_neg (by omega)]
        have hrest : s_last A.D τ N ≤ 500 → ∃ σf : Si, s_srep R.rF σf ∧ σf.2 = (s_run A.D N τ).2 := fun _ => ⟨_, hF, hend.2.symm⟩
        refine g_iload (q := 30) dX8_ticksToRest_28 rfl rfl ?_
        refine g_iload (q := 32) dX8_ticksToRest_30 rfl rfl ?_
        refine g_icmpN_ge (q := 35) (t := 82) dX8_ticksToRest_32 rfl (by decide) (by omega) (by omega) (fun _ => ?_) (fun c => absurd c (by omega))
        refine g_iload_n (q := 83) dX8_ticksToRest_82 rfl rfl ?_
        refine g_sipush (q := 86) (v := (nI 500)) dX8_ticksToRest_83 rfl (by decide) ?_
        refine g_icmpN_gt (q := 89) (t := 93) dX8_ticksToRest_86 rfl (by decide) (by omega) (by omega) (fun c => absurd c (by omega)) (fun _ => ?_)
        refine g_iload_n (q := 90) dX8_ticksToRest_89 rfl rfl ?_
        refine g_goto (q := 94) dX8_ticksToRest_90 (by decide) ?_
        exact g_iret dX8_ticksToRest_94 rfl (⟨τ, hlk, fun ls h => congrArg (fun z => some (Value.int z)) (hv ls h).symm, R, hB, hk, hrest⟩)
    | succ m ih =>
      intro i tk la R g1 hi hle hla htk h56 hB hk hF
      have hsl := s_last_le A.D τ tk
      by_cases h5 : 500 < la
      · have hbig : 500 < s_last A.D τ N := by have h3 := s_last_mono A.D τ tk (N - tk); rw [show tk + (N - tk) = N by omega] at h3; omega
        have hv : ∀ ls, s_last A.D τ N = ls → (if 500 < ls then (-1 : Int32) else nI ls) = -1 := fun ls h => if_pos (by omega)
        have hrest : s_last A.D τ N ≤ 500 → ∃ σf : Si, s_srep R.rF σf ∧ σf.2 = (s_run A.D N τ).2 := fun h => absurd h (by omega)
        refine g_iload (q := 30) dX8_ticksToRest_28 rfl rfl ?_
        refine g_iload (q := 32) dX8_ticksToRest_30 rfl rfl ?_
        refine g_icmpN_ge (q := 35) (t := 82) dX8_ticksToRest_32 rfl (by decide) (by omega) (by omega) (fun c => absurd c (by omega)) (fun _ => ?_)
        refine g_iload_n (q := 36) dX8_ticksToRest_35 rfl rfl ?_
        refine g_sipush (q := 39) (v := (nI 500)) dX8_ticksToRest_36 rfl (by decide) ?_
        refine g_icmpN_gt (q := 42) (t := 82) dX8_ticksToRest_39 rfl (by decide) (by omega) (by omega) (fun _ => ?_) (fun c => absurd c (by omega))
        refine g_iload_n (q := 83) dX8_ticksToRest_82 rfl rfl ?_
        refine g_sipush (q := 86) (v := (nI 500)) dX8_ticksToRest_83 rfl (by decide) ?_
        refine g_icmpN_gt (q := 89) (t := 93) dX8_ticksToRest_86 rfl (by decide) (by omega) (by omega) (fun _ => ?_) (fun c => absurd c (by omega))
        refine g_iconst (q := 94) (v := (-1)) dX8_ticksToRest_93 rfl (by decide) ?_
        exact g_iret dX8_ticksToRest_94 rfl (⟨τ, hlk, fun ls h => congrArg (fun z => some (Value.int z)) (hv ls h).symm, R, hB, hk, hrest⟩)
      · by_cases h51 : la + 51 ≤ tk
        · have hend := s_last_end (pl := A.D) hhb (t := tk) (by omega) N (by omega)
          have hv : ∀ ls, s_last A.D τ N = ls → (if 500 < ls then (-1 : Int32) else nI ls) = nI la := fun ls h => by rw [← h, hend.1, hla, if_neg (by omega)]
          have hrest : s_last A.D τ N ≤ 500 → ∃ σf : Si, s_srep R.rF σf ∧ σf.2 = (s_run A.D N τ).2 := fun _ => ⟨_, hF, hend.2.symm⟩
          refine g_iload (q := 30) dX8_ticksToRest_28 rfl rfl ?_
          refine g_iload (q := 32) dX8_ticksToRest_30 rfl rfl ?_
          refine g_icmpN_ge (q := 35) (t := 82) dX8_ticksToRest_32 rfl (by decide) (by omega) (by omega) (fun c => absurd c (by omega)) (fun _ => ?_)
          refine g_iload_n (q := 36) dX8_ticksToRest_35 rfl rfl ?_
          refine g_sipush (q := 39) (v := (nI 500)) dX8_ticksToRest_36 rfl (by decide) ?_
          refine g_icmpN_gt (q := 42) (t := 82) dX8_ticksToRest_39 rfl (by decide) (by omega) (by omega) (fun c => absurd c (by omega)) (fun _ => ?_)
          refine g_iload_n (q := 43) dX8_ticksToRest_42 rfl rfl ?_
          refine g_iload_n (q := 44) dX8_ticksToRest_43 rfl rfl ?_
          refine g_isubN (q := 45) dX8_ticksToRest_44 rfl (by omega) ?_
          refine g_iload_n (q := 46) dX8_ticksToRest_45 rfl rfl ?_
          refine g_icmpN_ge (q := 49) (t := 82) dX8_ticksToRest_46 rfl (by decide) (by omega) (by omega) (fun _ => ?_) (fun c => absurd c (by omega))
          refine g_iload_n (q := 83) dX8_ticksToRest_82 rfl rfl ?_
          refine g_sipush (q := 86) (v := (nI 500)) dX8_ticksToRest_83 rfl (by decide) ?_
          refine g_icmpN_gt (q := 89) (t := 93) dX8_ticksToRest_86 rfl (by decide) (by omega) (by omega) (fun c => absurd c (by omega)) (fun _ => ?_)
          refine g_iload_n (q := 90) dX8_ticksToRest_89 rfl rfl ?_
          refine g_goto (q := 94) dX8_ticksToRest_90 (by decide) ?_
          exact g_iret dX8_ticksToRest_94 rfl (⟨τ, hlk, fun ls h => congrArg (fun z => some (Value.int z)) (hv ls h).symm, R, hB, hk, hrest⟩)
        · have hin2 := hin.run (pl := A.D) hd.2.2.1.1 tk
          obtain ⟨hn6, hb6, hpq, hT, hD, hS, hnw, hlen, hrg, hs0, hs1⟩ := id hk
          refine g_iload (q := 30) dX8_ticksToRest_28 rfl rfl ?_
          refine g_iload (q := 32) dX8_ticksToRest_30 rfl rfl ?_
          refine g_icmpN_ge (q := 35) (t := 82) dX8_ticksToRest_32 rfl (by decide) (by omega) (by omega) (fun c => absurd c (by omega)) (fun _ => ?_)
          refine g_iload_n (q := 36) dX8_ticksToRest_35 rfl rfl ?_
          refine g_sipush (q := 39) (v := (nI 500)) dX8_ticksToRest_36 rfl (by decide) ?_
          refine g_icmpN_gt (q := 42) (t := 82) dX8_ticksToRest_39 rfl (by decide) (by omega) (by omega) (fun c => absurd c (by omega)) (fun _ => ?_)
          refine g_iload_n (q := 43) dX8_ticksToRest_42 rfl rfl ?_
          refine g_iload_n (q := 44) dX8_ticksToRest_43 rfl rfl ?_
          refine g_isubN (q := 45) dX8_ticksToRest_44 rfl (by omega) ?_
          refine g_iload_n (q := 46) dX8_ticksToRest_45 rfl rfl ?_
          refine g_icmpN_ge (q := 49) (t := 82) dX8_ticksToRest_46 rfl (by decide) (by omega) (by omega) (fun c => absurd c (by omega)) (fun _ => ?_)
          refine g_iload_n (q := 50) dX8_ticksToRest_49 rfl rfl ?_
          refine g_aload_n (q := 51) dX8_ticksToRest_50 rfl rfl ?_
          refine gb_getf (q := 54) (j := 0) (i := 0) dX8_ticksToRest_51 rfl fl_X8_37 hB rfl rfl rfl rfl ?_
          refine g_aload_n (q := 55) dX8_ticksToRest_54 rfl rfl ?_
          refine gb_getf (q := 58) (j := 0) (i := 0) dX8_ticksToRest_55 rfl fl_X8_23 hB rfl rfl rfl rfl ?_
          refine g_iload_n (q := 59) dX8_ticksToRest_58 rfl rfl ?_
          refine gb_callV (q := 62) (j := 6) (i := 0) dX8_ticksToRest_59 rfl kv_X8_212 (c_advance (o := o + 54) (p := R.p) (most := 51) (r0 := R.rF) (σ := s_run A.D tk τ) (pl := A.D) hF (by rw [s_run1]; omega) (by decide) hin2.1 hin2.2.1 (hD.lpl hd) (w_pick2 hB.1 6 3 rfl rfl (by decide))) rfl (by decide) hB rfl rfl rfl rfl (bz_le rfl) (by decide) (by decide) (fun r g1 hQ => ?_)
          obtain ⟨rfl, r1, v0', v1', h1, hs1', hmv⟩ := hQ
          have hB := w_advF (r1 := r1) (v0 := v0') (v1 := v1') hB h1
          have hrun := (s_idle_run (pl := A.D) (most := 51) (σ := s_run A.D tk τ)).1
          rw [← hrun, ← s_run_add] at hs1'
          have hidle := s_idle_le (pl := A.D) (σ := s_run A.D tk τ) (show 1 ≤ 51 by decide)
          refine g_iaddN (q := 63) dX8_ticksToRest_62 rfl ?_
          refine g_istore_n (q := 64) rfl dX8_ticksToRest_63 rfl (by decide) rfl ?_
          refine g_aload_n (q := 65) dX8_ticksToRest_64 rfl rfl ?_
          refine gb_getf (q := 68) (j := 0) (i := 0) dX8_ticksToRest_65 rfl fl_X8_37 hB rfl rfl rfl rfl ?_
          refine gb_getf (q := 71) (j := 6) (i := 0) dX8_ticksToRest_68 rfl fl_X8_215 hB rfl rfl rfl rfl ?_
          refine g_eqi (v := tB (s_moved A.D (s_run A.D tk τ))) (hmv) ?_
          cases hm9 : s_moved A.D (s_run A.D tk τ) with
          | true =>
            have hz : s_idle A.D 51 (s_run A.D tk τ) = 0 := s_idle_mv hm9
            refine g_if_eq (q := 74) (t := 76) dX8_ticksToRest_71 rfl (by decide) (fun c => absurd c ((by decide : ¬ tB true = 0))) (fun _ => ?_)
            refine g_iload_n (q := 75) dX8_ticksToRest_74 rfl rfl ?_
            refine g_istore_n (q := 76) rfl dX8_ticksToRest_75 rfl (by decide) rfl ?_
            refine g_iincN (q := 79) (c := 1) dX8_ticksToRest_76 rfl (by decide) rfl rfl (by decide) ?_
            refine g_goto (q := 28) dX8_ticksToRest_79 (by decide) ?_
            refine g_lvs (lv1 := [(5, .int (nI (i + 1))), (4, .int (nI (500 + 51))), (3, .int (nI (tk + (1 + s_idle A.D 51 (s_run A.D tk τ))))), (2, .int (nI (tk + (1 + s_idle A.D 51 (s_run A.D tk τ))))), (1, .int (nI 51)), (0, .ref o)]) ⟨rfl, rfl, rfl, rfl, rfl, rfl, trivial⟩ ?_
            exact ih (i + 1) (tk + (1 + s_idle A.D 51 (s_run A.D tk τ))) (tk + (1 + s_idle A.D 51 (s_run A.D tk τ))) ((R.u_rF r1).u_rp (w_pv R.rp v0' v1')) _ (by omega) (by omega) (by rw [hz]; exact s_last_mv hm9) (by omega) (by omega) hB ⟨hn6, hb6, hpq, hT, w_pv_rep hD, hS, hnw, hlen, hrg, hs0, hs1⟩ hs1'
          | false =>
            refine g_if_eq (q := 74) (t := 76) dX8_ticksToRest_71 rfl (by decide) (fun _ => ?_) (fun c => absurd ((rfl : tB false = 0)) c)
            refine g_iincN (q := 79) (c := 1) dX8_ticksToRest_76 rfl (by decide) rfl rfl (by decide) ?_
            refine g_goto (q := 28) dX8_ticksToRest_79 (by decide) ?_
            refine g_lvs (lv1 := [(5, .int (nI (i + 1))), (4, .int (nI (500 + 51))), (3, .int (nI la)), (2, .int (nI (tk + (1 + s_idle A.D 51 (s_run A.D tk τ))))), (1, .int (nI 51)), (0, .ref o)]) ⟨rfl, rfl, rfl, rfl, rfl, rfl, trivial⟩ ?_
            exact ih (i + 1) (tk + (1 + s_idle A.D 51 (s_run A.D tk τ))) la ((R.u_rF r1).u_rp (w_pv R.rp v0' v1')) _ (by omega) (by omega) ((s_last_id hm9).trans hla) (by omega) (by omega) hB ⟨hn6, hb6, hpq, hT, w_pv_rep hD, hS, hnw, hlen, hrg, hs0, hs1⟩ hs1'
  obtain ⟨R, hW, hk⟩ := hX
  have hB := bz_B.rf hW
  obtain ⟨hn6, hb6, hpq, hT, hD, hS, hnw, hlen, hrg, hs0, hs1⟩ := hk
  show bz_G _ _ _ _ _ _ _ _ _ _ _ _ 0 [(0, .ref o)] []
  refine g_bipush (q := 2) (v := (nI 51)) dX8_ticksToRest_0 rfl (by decide) ?_
  refine g_istore_n (q := 3) rfl dX8_ticksToRest_2 rfl (by decide) rfl ?_
  refine g_iconst (q := 4) (v := (nI 0)) dX8_ticksToRest_3 rfl (by decide) ?_
  refine g_istore_n (q := 5) rfl dX8_ticksToRest_4 rfl (by decide) rfl ?_
  refine g_iconst (q := 6) (v := (nI 0)) dX8_ticksToRest_5 rfl (by decide) ?_
  refine g_istore_n (q := 7) rfl dX8_ticksToRest_6 rfl (by decide) rfl ?_
  refine g_aload_n (q := 8) dX8_ticksToRest_7 rfl rfl ?_
  refine gb_getf (q := 11) (j := 0) (i := 0) dX8_ticksToRest_8 rfl fl_X8_37 hB rfl rfl rfl rfl ?_
  refine g_aload_n (q := 12) dX8_ticksToRest_11 rfl rfl ?_
  refine gb_getf (q := 15) (j := 0) (i := 0) dX8_ticksToRest_12 rfl fl_X8_33 hB rfl rfl rfl rfl ?_
  refine gb_callV (q := 18) (j := 6) (i := 0) dX8_ticksToRest_15 rfl kv_X8_208 (c_scopyFrom (r0 := R.rF) (r2 := R.rS) (σ := A.s) hS (hB.1.at (j := 6) rfl) (hB.1.at (j := 5) rfl) (by omega)) rfl (by decide) hB rfl rfl rfl rfl (bz_le rfl) (by decide) (by decide) (fun r g1 hQ => ?_)
  obtain ⟨rfl, h1⟩ := hQ
  have hB : bz_B _ _ _ (w_bs E o A (R.u_rF (s_cps R.rF R.rS A.s))) := w_B1 (j := 6) hB rfl h1 rfl
  refine g_sipush (q := 21) (v := (nI 500)) dX8_ticksToRest_18 rfl (by decide) ?_
  refine g_iload_n (q := 22) dX8_ticksToRest_21 rfl rfl ?_
  refine g_iaddN (q := 23) dX8_ticksToRest_22 rfl ?_
  refine g_istore (q := 25) dX8_ticksToRest_23 rfl (by decide) rfl ?_
  refine g_iconst (q := 26) (v := (nI 0)) dX8_ticksToRest_25 rfl (by decide) ?_
  refine g_istore (q := 28) dX8_ticksToRest_26 rfl (by decide) rfl ?_
  refine g_lvs (lv1 := [(5, .int (nI 0)), (4, .int (nI (500 + 51))), (3, .int (nI 0)), (2, .int (nI 0)), (1, .int (nI 51)), (0, .ref o)]) ⟨rfl, rfl, rfl, rfl, rfl, rfl, trivial⟩ ?_
  have hlk : s_like A.s (s_cm A.s (s_m R.rF.2.2.1) (s_m R.rF.2.2.2)) := ⟨_, _, rfl⟩
  exact K _ hlk (hlk.inv hin) (hlk.hb hhb) 551 0 0 0 (R.u_rF (s_cps R.rF R.rS A.s)) _ rfl (Nat.le_refl _) rfl (by omega) (by omega) hB ⟨hn6, hb6, hpq, hT, hD, hS, hnw, hlen, hrg, hs0, hs1⟩ (s_cps_rep hS)
