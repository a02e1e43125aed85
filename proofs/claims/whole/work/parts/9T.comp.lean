/-! the class: isStuck, completeTick -/
theorem s_emp_2 {σ τ : Si} (h : σ.2 = τ.2) : s_emp σ = s_emp τ := by unfold s_emp; rw [h]

set_option maxRecDepth 20000 in
set_option maxHeartbeats 1000000 in
theorem c8_isStuck {l : Launch} {E : bz_E} {L : List Nat} {g : Nat → va_E} {o : Nat} {A : WA} {N : Nat} (hN : N = 560) (hd : d_ok A.D) (hin : s_inv A.D A.s) (hhb : s_hb A.s) (hnow : A.s.1 < 20000) (hX : w_X E L g o A) : bz_K l E mX8_isStuck 8 [.ref o] L g (fun r g1 => ∃ τ : Si, s_like A.s τ ∧ (∀ (ls : Nat) (em : Bool), s_last A.D τ N = ls → s_emp (s_run A.D N τ) = em → r = some (.int (tB (decide (ls ≤ 500) && !em)))) ∧ w_P E L g o A g1) := by
  refine bz_K.of (by decide) (bz_le rfl) (fun sz => ?_)
  obtain ⟨R, hW, hk⟩ := hX
  have hB := bz_B.rf hW
  obtain ⟨hn6, hb6, hpq, hT, hD, hS, hnw, hlen, hrg, hs0, hs1⟩ := id hk
  show bz_G _ _ _ _ _ _ _ _ _ _ _ _ 0 [(0, .ref o)] []
  refine g_aload_n (q := 1) dX8_isStuck_0 rfl rfl ?_
  refine gb_callV (q := 4) (j := 0) (i := 0) dX8_isStuck_1 rfl kv_X8_218 (c8_ticksToRest hN hd hin hhb hnow ⟨R, hW, hk⟩) rfl (by decide) hB rfl rfl rfl rfl (bz_le rfl) (by decide) (by decide) (fun r g1 hQ => ?_)
  obtain ⟨τ, hlk, hr, R1, hB, hk, hrest⟩ := hQ
  have hr := hr _ rfl
  subst hr
  generalize hls : s_last A.D τ N = ls at *
  by_cases h5 : 500 < ls
  · refine g_eqi (v := -1) (if_pos h5) ?_
    refine g_iconst (q := 5) (v := (-1)) dX8_isStuck_4 rfl (by decide) ?_
    refine g_icmp_eq (q := 8) (t := 22) dX8_isStuck_5 rfl (by decide) (fun _ => ?_) (fun c => absurd (rfl) c)
    refine g_iconst (q := 23) (v := (nI 0)) dX8_isStuck_22 rfl (by decide) ?_
    exact g_zret dX8_isStuck_23 rfl rfl ⟨τ, hlk, fun l9 em h9 _ => by rw [← h9, hls, decide_eq_false (by omega)]; rfl, w_to hB hk⟩
  · refine g_eqi (v := nI ls) (if_neg h5) ?_
    obtain ⟨σf, hF, hf2⟩ := hrest (by omega)
    refine g_iconst (q := 5) (v := (-1)) dX8_isStuck_4 rfl (by decide) ?_
    refine g_icmp_eq (q := 8) (t := 22) dX8_isStuck_5 rfl (by decide) (fun c => absurd c (nI_ne_m1 (by omega))) (fun _ => ?_)
    refine g_aload_n (q := 9) dX8_isStuck_8 rfl rfl ?_
    refine gb_getf (q := 12) (j := 0) (i := 0) dX8_isStuck_9 rfl fl_X8_37 hB rfl rfl rfl rfl ?_
    refine gb_callV (q := 15) (j := 6) (i := 0) dX8_isStuck_12 rfl kv_X8_222 (c_isEmpty hF (hB.1.at (j := 6) rfl)) rfl (by decide) hB rfl rfl rfl rfl (bz_le rfl) (by decide) (by decide) (fun r g1 hQ => ?_)
    obtain ⟨rfl, hg⟩ := hQ
    have hg := hg.symm
    subst hg
    refine g_eqi (v := tB (s_emp (s_run A.D N τ))) (congrArg tB (s_emp_2 hf2)) ?_
    cases hem : s_emp (s_run A.D N τ) with
    | true =>
      refine g_if_ne (q := 18) (t := 22) dX8_isStuck_15 rfl (by decide) (fun _ => ?_) (fun c => absurd c ((by decide : ¬ tB true = 0)))
      refine g_iconst (q := 23) (v := (nI 0)) dX8_isStuck_22 rfl (by decide) ?_
      exact g_zret dX8_isStuck_23 rfl rfl ⟨τ, hlk, fun l9 em h9 h8 => by rw [← h9, hls, ← h8, hem, decide_eq_true (by omega)]; rfl, w_to hB hk⟩
    | false =>
      refine g_if_ne (q := 18) (t := 22) dX8_isStuck_15 rfl (by decide) (fun c => absurd c (fun h => h rfl)) (fun _ => ?_)
      refine g_iconst (q := 19) (v := (nI 1)) dX8_isStuck_18 rfl (by decide) ?_
      refine g_goto (q := 23) dX8_isStuck_19 (by decide) ?_
      exact g_zret dX8_isStuck_23 rfl rfl ⟨τ, hlk, fun l9 em h9 h8 => by rw [← h9, hls, ← h8, hem, decide_eq_true (by omega)]; rfl, w_to hB hk⟩
theorem s_cn_at {f : Nat → Nat} : ∀ (m a n : Nat), a ≤ n → n ≤ a + m → (∀ j, a ≤ j → j < n → f j = 1) → (n = a + m ∨ f n ≠ 1) → s_cn f m a = n
  | 0, a, n, h1, h2, _, _ => by show a = n; omega
  | m + 1, a, n, h1, h2, h3, h4 => by
    show (if f a = 1 then s_cn f m (a + 1) else a) = n
    by_cases e : f a = 1
    · rw [if_pos e]
      refine s_cn_at m (a + 1) n ?_ (by omega) (fun j h5 h6 => h3 j (by omega) h6) (by rcases h4 with h | h; exact Or.inl (by omega); exact Or.inr h)
      rcases Nat.lt_or_ge a n with c | c
      · exact c
      · have : n = a := by omega
        subst this
        rcases h4 with h | h
        · omega
        · exact absurd e h
    · rw [if_neg e]
      rcases Nat.lt_or_ge a n with c | c
      · exact absurd (h3 a (Nat.le_refl _) c) e
      · omega
theorem s_st_id {pl : Pl} {σ : Si} {s t n most : Nat} {j : Nat} (h1 : n ≤ j) (h2 : j < n + (1 + s_idle pl most (s_run pl n σ))) : s_st pl σ s t j = s_st pl σ s t n := by
  have h := s_idle_same (pl := pl) (most := most) (σ := s_run pl n σ) (j - n) (by omega)
  rw [← s_run_add, show n + (j - n) = j by omega] at h
  unfold s_st s_tgs
  rw [h]

set_option maxRecDepth 20000 in
set_option maxHeartbeats 1000000 in
theorem c8_completeTick0 {l : Launch} {E : bz_E} {L : List Nat} {g : Nat → va_E} {o : Nat} {A : WA} {N s k : Nat} (hN : N = 500) (hs : s < 2) (hd : d_ok A.D) (hin : s_inv A.D A.s) (ht2 : s_t2 A.s) (hnow : A.s.1 < 20000) (hk9 : k < A.D.2.2.2.2.2.1) (hX : w_X E L g o A) : bz_K l E mX8_completeTick 7 [.ref o, .int (nI s), .int (nI k)] L g (fun r g1 => ∃ τ : Si, s_like A.s τ ∧ (∀ cn, s_cn (s_st A.D τ s k) N 0 = cn → r = some (.int (if s_st A.D τ s k cn = 2 then nI (τ.1 + cn) else -1))) ∧ w_P E L g o A g1) := by
  refine bz_K.of (by decide) (bz_le rfl) (fun sz => ?_)
  have hk8 : k < 8 := by have h4 := hd.2.2.2.1.2; omega
  obtain ⟨R, hW, hk⟩ := hX
  have hB := bz_B.rf hW
  obtain ⟨hn6, hb6, hpq, hT, hD, hS, hnw, hlen, hrg, hs0, hs1⟩ := hk
  show bz_G _ _ _ _ _ _ _ _ _ _ _ _ 0 [(0, .ref o), (1, .int (nI s)), (2, .int (nI k))] []
  rcases (show s = 0 ∨ s = 1 by omega) with rfl | rfl
  · have K : ∀ (τ : Si), s_like A.s τ → s_inv A.D τ → s_t2 τ → ∀ (m i n : Nat) (R : WR) (g1 : Nat → va_E), i + m = 500 → i ≤ n → n ≤ 500 → (∀ j, j < n → s_st A.D τ 0 k j = 1) → bz_B L g g1 (w_bs E o A R) → w_ok E o A R → s_srep R.rF (s_run A.D n τ) → bz_G l E mX8_completeTick (bz_R 7 0 0) L sz (bz_Fm E L sz (fun r g1 => ∃ τ : Si, s_like A.s τ ∧ (∀ cn, s_cn (s_st A.D τ 0 k) N 0 = cn → r = some (.int (if s_st A.D τ 0 k cn = 2 then nI (τ.1 + cn) else -1))) ∧ w_P E L g o A g1)) sz 0 0 L g1 35 [(5, .int (nI i)), (4, .int (nI n)), (3, .ref (o + 54 + 1 + 7)), (0, .ref o), (1, .int (nI 0)), (2, .int (nI k))] [] := by
      intro τ hlk hin ht2 m
      have htm := hlk.tm
      induction m with
      | zero =>
        intro i n R g1 hi hle hn5 hal hB hk hF
        have hle2 : s_st A.D τ 0 k n ≤ 2 := (ht2.run n).le hk8
        have hcn : s_cn (s_st A.D τ 0 k) N 0 = n := s_cn_at N 0 n (Nat.zero_le _) (by omega) (fun j _ hj => hal j hj) (Or.inl (by omega))
        by_cases h2 : s_st A.D τ 0 k n = 2
        ·
          refine g_iload (q := 37) dX8_completeTick_35 rfl rfl ?_
          refine g_sipush (q := 40) (v := (nI 500)) dX8_completeTick_37 rfl (by decide) ?_
          refine g_icmpN_ge (q := 43) (t := 88) dX8_completeTick_40 rfl (by decide) (by omega) (by omega) (fun _ => ?_) (fun c => absurd c (by omega))
          refine g_aload_n (q := 89) dX8_completeTick_88 rfl rfl ?_
          refine g_iload_n (q := 90) dX8_completeTick_89 rfl rfl ?_
          refine gb_callV (q := 93) (j := 6) (i := 8) dX8_completeTick_90 rfl kv_X8_171 (c_stateOf (t := k) hk8 ((hB.1.at (j := 6) rfl).sub 8 rfl)) rfl (by decide) hB rfl rfl rfl rfl (bz_le rfl) (by decide) (by decide) (fun r g1 hQ => ?_)
          obtain ⟨rfl, hg⟩ := hQ
          have hg := hg.symm
          subst hg
          refine g_eqi (v := nI (s_st A.D τ 0 k n)) (hF.2.1.2.2.2.2.2.2.1.1 k hk8).1 ?_
          refine g_iconst (q := 94) (v := (nI 2)) dX8_completeTick_93 rfl (by decide) ?_
          refine g_icmpN_ne (q := 97) (t := 107) dX8_completeTick_94 rfl (by decide) (by omega) (by omega) (fun c => absurd c (by omega)) (fun _ => ?_)
          refine g_aload_n (q := 98) dX8_completeTick_97 rfl rfl ?_
          refine gb_getf (q := 101) (j := 0) (i := 0) dX8_completeTick_98 rfl fl_X8_37 hB rfl rfl rfl rfl ?_
          refine gb_getf (q := 104) (j := 6) (i := 0) dX8_completeTick_101 rfl fl_X8_98 hB rfl rfl rfl rfl ?_
          refine g_eqi (v := nI (τ.1 + n)) (by rw [hF.1, s_run1]) ?_
          refine g_goto (q := 108) dX8_completeTick_104 (by decide) ?_
          exact g_iret dX8_completeTick_108 rfl (⟨τ, hlk, fun c9 h9 => by rw [← h9, hcn, if_pos h2], w_to hB hk⟩)
        ·
          refine g_iload (q := 37) dX8_completeTick_35 rfl rfl ?_
          refine g_sipush (q := 40) (v := (nI 500)) dX8_completeTick_37 rfl (by decide) ?_
          refine g_icmpN_ge (q := 43) (t := 88) dX8_completeTick_40 rfl (by decide) (by omega) (by omega) (fun _ => ?_) (fun c => absurd c (by omega))
          refine g_aload_n (q := 89) dX8_completeTick_88 rfl rfl ?_
          refine g_iload_n (q := 90) dX8_completeTick_89 rfl rfl ?_
          refine gb_callV (q := 93) (j := 6) (i := 8) dX8_completeTick_90 rfl kv_X8_171 (c_stateOf (t := k) hk8 ((hB.1.at (j := 6) rfl).sub 8 rfl)) rfl (by decide) hB rfl rfl rfl rfl (bz_le rfl) (by decide) (by decide) (fun r g1 hQ => ?_)
          obtain ⟨rfl, hg⟩ := hQ
          have hg := hg.symm
          subst hg
          refine g_eqi (v := nI (s_st A.D τ 0 k n)) (hF.2.1.2.2.2.2.2.2.1.1 k hk8).1 ?_
          refine g_iconst (q := 94) (v := (nI 2)) dX8_completeTick_93 rfl (by decide) ?_
          refine g_icmpN_ne (q := 97) (t := 107) dX8_completeTick_94 rfl (by decide) (by omega) (by omega) (fun _ => ?_) (fun c => absurd c (by omega))
          refine g_iconst (q := 108) (v := (-1)) dX8_completeTick_107 rfl (by decide) ?_
          exact g_iret dX8_completeTick_108 rfl (⟨τ, hlk, fun c9 h9 => by rw [← h9, hcn, if_neg h2], w_to hB hk⟩)
      | succ m ih =>
        intro i n R g1 hi hle hn5 hal hB hk hF
        have hle2 : s_st A.D τ 0 k n ≤ 2 := (ht2.run n).le hk8
        by_cases hn : n = 500
        ·
          have hcn : s_cn (s_st A.D τ 0 k) N 0 = n := s_cn_at N 0 n (Nat.zero_le _) (by omega) (fun j _ hj => hal j hj) (Or.inl (by omega))
          by_cases h2 : s_st A.D τ 0 k n = 2
          ·
            refine g_iload (q := 37) dX8_completeTick_35 rfl rfl ?_
            refine g_sipush (q := 40) (v := (nI 500)) dX8_completeTick_37 rfl (by decide) ?_
            refine g_icmpN_ge (q := 43) (t := 88) dX8_completeTick_40 rfl (by decide) (by omega) (by omega) (fun c => absurd c (by omega)) (fun _ => ?_)
            refine g_iload (q := 45) dX8_completeTick_43 rfl rfl ?_
            refine g_sipush (q := 48) (v := (nI 500)) dX8_completeTick_45 rfl (by decide) ?_
            refine g_icmpN_ge (q := 51) (t := 88) dX8_completeTick_48 rfl (by decide) (by omega) (by omega) (fun _ => ?_) (fun c => absurd c (by omega))
            refine g_aload_n (q := 89) dX8_completeTick_88 rfl rfl ?_
            refine g_iload_n (q := 90) dX8_completeTick_89 rfl rfl ?_
            refine gb_callV (q := 93) (j := 6) (i := 8) dX8_completeTick_90 rfl kv_X8_171 (c_stateOf (t := k) hk8 ((hB.1.at (j := 6) rfl).sub 8 rfl)) rfl (by decide) hB rfl rfl rfl rfl (bz_le rfl) (by decide) (by decide) (fun r g1 hQ => ?_)
            obtain ⟨rfl, hg⟩ := hQ
            have hg := hg.symm
            subst hg
            refine g_eqi (v := nI (s_st A.D τ 0 k n)) (hF.2.1.2.2.2.2.2.2.1.1 k hk8).1 ?_
            refine g_iconst (q := 94) (v := (nI 2)) dX8_completeTick_93 rfl (by decide) ?_
            refine g_icmpN_ne (q := 97) (t := 107) dX8_completeTick_94 rfl (by decide) (by omega) (by omega) (fun c => absurd c (by omega)) (fun _ => ?_)
            refine g_aload_n (q := 98) dX8_completeTick_97 rfl rfl ?_
            refine gb_getf (q := 101) (j := 0) (i := 0) dX8_completeTick_98 rfl fl_X8_37 hB rfl rfl rfl rfl ?_
            refine gb_getf (q := 104) (j := 6) (i := 0) dX8_completeTick_101 rfl fl_X8_98 hB rfl rfl rfl rfl ?_
            refine g_eqi (v := nI (τ.1 + n)) (by rw [hF.1, s_run1]) ?_
            refine g_goto (q := 108) dX8_completeTick_104 (by decide) ?_
            exact g_iret dX8_completeTick_108 rfl (⟨τ, hlk, fun c9 h9 => by rw [← h9, hcn, if_pos h2], w_to hB hk⟩)
          ·
            refine g_iload (q := 37) dX8_completeTick_35 rfl rfl ?_
            refine g_sipush (q := 40) (v := (nI 500)) dX8_completeTick_37 rfl (by decide) ?_
            refine g_icmpN_ge (q := 43) (t := 88) dX8_completeTick_40 rfl (by decide) (by omega) (by omega) (fun c => absurd c (by omega)) (fun _ => ?_)
            refine g_iload (q := 45) dX8_completeTick_43 rfl rfl ?_
            refine g_sipush (q := 48) (v := (nI 500)) dX8_completeTick_45 rfl (by decide) ?_
            refine g_icmpN_ge (q := 51) (t := 88) dX8_completeTick_48 rfl (by decide) (by omega) (by omega) (fun _ => ?_) (fun c => absurd c (by omega))
            refine g_aload_n (q := 89) dX8_completeTick_88 rfl rfl ?_
            refine g_iload_n (q := 90) dX8_completeTick_89 rfl rfl ?_
            refine gb_callV (q := 93) (j := 6) (i := 8) dX8_completeTick_90 rfl kv_X8_171 (c_stateOf (t := k) hk8 ((hB.1.at (j := 6) rfl).sub 8 rfl)) rfl (by decide) hB rfl rfl rfl rfl (bz_le rfl) (by decide) (by decide) (fun r g1 hQ => ?_)
            obtain ⟨rfl, hg⟩ := hQ
            have hg := hg.symm
            subst hg
            refine g_eqi (v := nI (s_st A.D τ 0 k n)) (hF.2.1.2.2.2.2.2.2.1.1 k hk8).1 ?_
            refine g_iconst (q := 94) (v := (nI 2)) dX8_completeTick_93 rfl (by decide) ?_
            refine g_icmpN_ne (q := 97) (t := 107) dX8_completeTick_94 rfl (by decide) (by omega) (by omega) (fun _ => ?_) (fun c => absurd c (by omega))
            refine g_iconst (q := 108) (v := (-1)) dX8_completeTick_107 rfl (by decide) ?_
            exact g_iret dX8_completeTick_108 rfl (⟨τ, hlk, fun c9 h9 => by rw [← h9, hcn, if_neg h2], w_to hB hk⟩)
        · by_cases h1s : s_st A.D τ 0 k n = 1
          · have hin2 := hin.run (pl := A.D) hd.2.2.1.1 n
            obtain ⟨hn6, hb6, hpq, hT, hD, hS, hnw, hlen, hrg, hs0, hs1⟩ := id hk
            refine g_iload (q := 37) dX8_completeTick_35 rfl rfl ?_
            refine g_sipush (q := 40) (v := (nI 500)) dX8_completeTick_37 rfl (by decide) ?_
            refine g_icmpN_ge (q := 43) (t := 88) dX8_completeTick_40 rfl (by decide) (by omega) (by omega) (fun c => absurd c (by omega)) (fun _ => ?_)
            refine g_iload (q := 45) dX8_completeTick_43 rfl rfl ?_
            refine g_sipush (q := 48) (v := (nI 500)) dX8_completeTick_45 rfl (by decide) ?_
            refine g_icmpN_ge (q := 51) (t := 88) dX8_completeTick_48 rfl (by decide) (by omega) (by omega) (fun c => absurd c (by omega)) (fun _ => ?_)
            refine g_aload_n (q := 52) dX8_completeTick_51 rfl rfl ?_
            refine g_iload_n (q := 53) dX8_completeTick_52 rfl rfl ?_
            refine gb_callV (q := 56) (j := 6) (i := 8) dX8_completeTick_53 rfl kv_X8_171 (c_stateOf (t := k) hk8 ((hB.1.at (j := 6) rfl).sub 8 rfl)) rfl (by decide) hB rfl rfl rfl rfl (bz_le rfl) (by decide) (by decide) (fun r g1 hQ => ?_)
            obtain ⟨rfl, hg⟩ := hQ
            have hg := hg.symm
            subst hg
            refine g_eqi (v := nI (s_st A.D τ 0 k n)) (hF.2.1.2.2.2.2.2.2.1.1 k hk8).1 ?_
            refine g_iconst (q := 57) (v := (nI 1)) dX8_completeTick_56 rfl (by decide) ?_
            refine g_icmpN_ne (q := 60) (t := 88) dX8_completeTick_57 rfl (by decide) (by omega) (by omega) (fun c => absurd c (by omega)) (fun _ => ?_)
            refine g_iload (q := 62) dX8_completeTick_60 rfl rfl ?_
            refine g_aload_n (q := 63) dX8_completeTick_62 rfl rfl ?_
            refine gb_getf (q := 66) (j := 0) (i := 0) dX8_completeTick_63 rfl fl_X8_37 hB rfl rfl rfl rfl ?_
            refine g_aload_n (q := 67) dX8_completeTick_66 rfl rfl ?_
            refine gb_getf (q := 70) (j := 0) (i := 0) dX8_completeTick_67 rfl fl_X8_23 hB rfl rfl rfl rfl ?_
            refine g_sipush (q := 73) (v := (nI 500)) dX8_completeTick_70 rfl (by decide) ?_
            refine g_iload (q := 75) dX8_completeTick_73 rfl rfl ?_
            refine g_isubN (q := 76) dX8_completeTick_75 rfl (by omega) ?_
            refine gb_callV (q := 79) (j := 6) (i := 0) dX8_completeTick_76 rfl kv_X8_212 (c_advance (o := o + 54) (p := R.p) (most := 500 - n) (r0 := R.rF) (σ := s_run A.D n τ) (pl := A.D) hF (by rw [s_run1]; omega) ⟨by omega, by omega⟩ hin2.1 hin2.2.1 (hD.lpl hd) (w_pick2 hB.1 6 3 rfl rfl (by decide))) rfl (by decide) hB rfl rfl rfl rfl (bz_le rfl) (by decide) (by decide) (fun r g1 hQ => ?_)
            obtain ⟨rfl, r1, v0', v1', h1, hs1', hmv⟩ := hQ
            have hB := w_advF (r1 := r1) (v0 := v0') (v1 := v1') hB h1
            have hrun := (s_idle_run (pl := A.D) (most := 500 - n) (σ := s_run A.D n τ)).1
            rw [← hrun, ← s_run_add] at hs1'
            have hidle := s_idle_le (pl := A.D) (σ := s_run A.D n τ) (show 1 ≤ 500 - n by omega)
            refine g_iaddN (q := 80) dX8_completeTick_79 rfl ?_
            refine g_istore (q := 82) dX8_completeTick_80 rfl (by decide) rfl ?_
            refine g_iincN (q := 85) (c := 1) dX8_completeTick_82 rfl (by decide) rfl rfl (by decide) ?_
            refine g_goto (q := 35) dX8_completeTick_85 (by decide) ?_
            refine g_lvs (lv1 := [(5, .int (nI (i + 1))), (4, .int (nI (n + (1 + s_idle A.D (500 - n) (s_run A.D n τ))))), (3, .ref (o + 54 + 1 + 7)), (0, .ref o), (1, .int (nI 0)), (2, .int (nI k))]) ⟨rfl, rfl, rfl, rfl, rfl, rfl, trivial⟩ ?_
            exact ih (i + 1) (n + (1 + s_idle A.D (500 - n) (s_run A.D n τ))) ((R.u_rF r1).u_rp (w_pv R.rp v0' v1')) _ (by omega) (by omega) (by omega) (fun j hj => by rcases Nat.lt_or_ge j n with c | c; exact hal j c; exact (s_st_id c hj).trans h1s) hB ⟨hn6, hb6, hpq, hT, w_pv_rep hD, hS, hnw, hlen, hrg, hs0, hs1⟩ hs1'
          ·
            have hcn : s_cn (s_st A.D τ 0 k) N 0 = n := s_cn_at N 0 n (Nat.zero_le _) (by omega) (fun j _ hj => hal j hj) (Or.inr h1s)
            by_cases h2 : s_st A.D τ 0 k n = 2
            ·
              refine g_iload (q := 37) dX8_completeTick_35 rfl rfl ?_
              refine g_sipush (q := 40) (v := (nI 500)) dX8_completeTick_37 rfl (by decide) ?_
              refine g_icmpN_ge (q := 43) (t := 88) dX8_completeTick_40 rfl (by decide) (by omega) (by omega) (fun c => absurd c (by omega)) (fun _ => ?_)
              refine g_iload (q := 45) dX8_completeTick_43 rfl rfl ?_
              refine g_sipush (q := 48) (v := (nI 500)) dX8_completeTick_45 rfl (by decide) ?_
              refine g_icmpN_ge (q := 51) (t := 88) dX8_completeTick_48 rfl (by decide) (by omega) (by omega) (fun c => absurd c (by omega)) (fun _ => ?_)
              refine g_aload_n (q := 52) dX8_completeTick_51 rfl rfl ?_
              refine g_iload_n (q := 53) dX8_completeTick_52 rfl rfl ?_
              refine gb_callV (q := 56) (j := 6) (i := 8) dX8_completeTick_53 rfl kv_X8_171 (c_stateOf (t := k) hk8 ((hB.1.at (j := 6) rfl).sub 8 rfl)) rfl (by decide) hB rfl rfl rfl rfl (bz_le rfl) (by decide) (by decide) (fun r g1 hQ => ?_)
              obtain ⟨rfl, hg⟩ := hQ
              have hg := hg.symm
              subst hg
              refine g_eqi (v := nI (s_st A.D τ 0 k n)) (hF.2.1.2.2.2.2.2.2.1.1 k hk8).1 ?_
              refine g_iconst (q := 57) (v := (nI 1)) dX8_completeTick_56 rfl (by decide) ?_
              refine g_icmpN_ne (q := 60) (t := 88) dX8_completeTick_57 rfl (by decide) (by omega) (by omega) (fun _ => ?_) (fun c => absurd c (by omega))
              refine g_aload_n (q := 89) dX8_completeTick_88 rfl rfl ?_
              refine g_iload_n (q := 90) dX8_completeTick_89 rfl rfl ?_
              refine gb_callV (q := 93) (j := 6) (i := 8) dX8_completeTick_90 rfl kv_X8_171 (c_stateOf (t := k) hk8 ((hB.1.at (j := 6) rfl).sub 8 rfl)) rfl (by decide) hB rfl rfl rfl rfl (bz_le rfl) (by decide) (by decide) (fun r g1 hQ => ?_)
              obtain ⟨rfl, hg⟩ := hQ
              have hg := hg.symm
              subst hg
              refine g_eqi (v := nI (s_st A.D τ 0 k n)) (hF.2.1.2.2.2.2.2.2.1.1 k hk8).1 ?_
              refine g_iconst (q := 94) (v := (nI 2)) dX8_completeTick_93 rfl (by decide) ?_
              refine g_icmpN_ne (q := 97) (t := 107) dX8_completeTick_94 rfl (by decide) (by omega) (by omega) (fun c => absurd c (by omega)) (fun _ => ?_)
              refine g_aload_n (q := 98) dX8_completeTick_97 rfl rfl ?_
              refine gb_getf (q := 101) (j := 0) (i := 0) dX8_completeTick_98 rfl fl_X8_37 hB rfl rfl rfl rfl ?_
              refine gb_getf (q := 104) (j := 6) (i := 0) dX8_completeTick_101 rfl fl_X8_98 hB rfl rfl rfl rfl ?_
              refine g_eqi (v := nI (τ.1 + n)) (by rw [hF.1, s_run1]) ?_
              refine g_goto (q := 108) dX8_completeTick_104 (by decide) ?_
              exact g_iret dX8_completeTick_108 rfl (⟨τ, hlk, fun c9 h9 => by rw [← h9, hcn, if_pos h2], w_to hB hk⟩)
            ·
              refine g_iload (q := 37) dX8_completeTick_35 rfl rfl ?_
              refine g_sipush (q := 40) (v := (nI 500)) dX8_completeTick_37 rfl (by decide) ?_
              refine g_icmpN_ge (q := 43) (t := 88) dX8_completeTick_40 rfl (by decide) (by omega) (by omega) (fun c => absurd c (by omega)) (fun _ => ?_)
              refine g_iload (q := 45) dX8_completeTick_43 rfl rfl ?_
              refine g_sipush (q := 48) (v := (nI 500)) dX8_completeTick_45 rfl (by decide) ?_
              refine g_icmpN_ge (q := 51) (t := 88) dX8_completeTick_48 rfl (by decide) (by omega) (by omega) (fun c => absurd c (by omega)) (fun _ => ?_)
              refine g_aload_n (q := 52) dX8_completeTick_51 rfl rfl ?_
              refine g_iload_n (q := 53) dX8_completeTick_52 rfl rfl ?_
              refine gb_callV (q := 56) (j := 6) (i := 8) dX8_completeTick_53 rfl kv_X8_171 (c_stateOf (t := k) hk8 ((hB.1.at (j := 6) rfl).sub 8 rfl)) rfl (by decide) hB rfl rfl rfl rfl (bz_le rfl) (by decide) (by decide) (fun r g1 hQ => ?_)
              obtain ⟨rfl, hg⟩ := hQ
              have hg := hg.symm
              subst hg
              refine g_eqi (v := nI (s_st A.D τ 0 k n)) (hF.2.1.2.2.2.2.2.2.1.1 k hk8).1 ?_
              refine g_iconst (q := 57) (v := (nI 1)) dX8_completeTick_56 rfl (by decide) ?_
              refine g_icmpN_ne (q := 60) (t := 88) dX8_completeTick_57 rfl (by decide) (by omega) (by omega) (fun _ => ?_) (fun c => absurd c (by omega))
              refine g_aload_n (q := 89) dX8_completeTick_88 rfl rfl ?_
              refine g_iload_n (q := 90) dX8_completeTick_89 rfl rfl ?_
              refine gb_callV (q := 93) (j := 6) (i := 8) dX8_completeTick_90 rfl kv_X8_171 (c_stateOf (t := k) hk8 ((hB.1.at (j := 6) rfl).sub 8 rfl)) rfl (by decide) hB rfl rfl rfl rfl (bz_le rfl) (by decide) (by decide) (fun r g1 hQ => ?_)
              obtain ⟨rfl, hg⟩ := hQ
              have hg := hg.symm
              subst hg
              refine g_eqi (v := nI (s_st A.D τ 0 k n)) (hF.2.1.2.2.2.2.2.2.1.1 k hk8).1 ?_
              refine g_iconst (q := 94) (v := (nI 2)) dX8_completeTick_93 rfl (by decide) ?_
              refine g_icmpN_ne (q := 97) (t := 107) dX8_completeTick_94 rfl (by decide) (by omega) (by omega) (fun _ => ?_) (fun c => absurd c (by omega))
              refine g_iconst (q := 108) (v := (-1)) dX8_completeTick_107 rfl (by decide) ?_
              exact g_iret dX8_completeTick_108 rfl (⟨τ, hlk, fun c9 h9 => by rw [← h9, hcn, if_neg h2], w_to hB hk⟩)
    have hk8' := hk8
    refine g_aload_n (q := 1) dX8_completeTick_0 rfl rfl ?_
    refine g_iload_n (q := 2) dX8_completeTick_1 rfl rfl ?_
    refine g_iload_n (q := 3) dX8_completeTick_2 rfl rfl ?_
    refine gb_callV (q := 6) (j := 0) (i := 0) dX8_completeTick_3 rfl kv_X8_164 (c8_tag0 hs hd.2.2.2.1.2 hk9 hS hD (w_pick3 hB.1 0 3 5 rfl rfl rfl (by decide) (by decide) (by decide))) rfl (by decide) hB rfl rfl rfl rfl (bz_le rfl) (by decide) (by decide) (fun r g1 hQ => ?_)
    obtain ⟨rfl, hg⟩ := hQ
    have hg := hg.symm
    subst hg
    refine g_aload_n (q := 7) dX8_completeTick_6 rfl rfl ?_
    refine gb_getf (q := 10) (j := 0) (i := 0) dX8_completeTick_7 rfl fl_X8_37 hB rfl rfl rfl rfl ?_
    refine g_iload_n (q := 11) dX8_completeTick_10 rfl rfl ?_
    refine gb_callV (q := 14) (j := 6) (i := 0) dX8_completeTick_11 rfl kv_X8_119 (c_portOf0 (hB.1.at (j := 6) rfl)) rfl (by decide) hB rfl rfl rfl rfl (bz_le rfl) (by decide) (by decide) (fun r g1 hQ => ?_)
    obtain ⟨rfl, hg⟩ := hQ
    have hg := hg.symm
    subst hg
    refine gb_getf (q := 17) (j := 6) (i := 1) dX8_completeTick_14 rfl fl_X8_167 hB rfl rfl rfl rfl ?_
    refine g_astore_n (q := 18) rfl dX8_completeTick_17 rfl (by decide) rfl ?_
    refine g_aload_n (q := 19) dX8_completeTick_18 rfl rfl ?_
    refine gb_getf (q := 22) (j := 0) (i := 0) dX8_completeTick_19 rfl fl_X8_37 hB rfl rfl rfl rfl ?_
    refine g_aload_n (q := 23) dX8_completeTick_22 rfl rfl ?_
    refine gb_getf (q := 26) (j := 0) (i := 0) dX8_completeTick_23 rfl fl_X8_33 hB rfl rfl rfl rfl ?_
    refine gb_callV (q := 29) (j := 6) (i := 0) dX8_completeTick_26 rfl kv_X8_208 (c_scopyFrom (r0 := R.rF) (r2 := R.rS) (σ := A.s) hS (hB.1.at (j := 6) rfl) (hB.1.at (j := 5) rfl) (by omega)) rfl (by decide) hB rfl rfl rfl rfl (bz_le rfl) (by decide) (by decide) (fun r g1 hQ => ?_)
    obtain ⟨rfl, h1⟩ := hQ
    have hB : bz_B _ _ _ (w_bs E o A (R.u_rF (s_cps R.rF R.rS A.s))) := w_B1 (j := 6) hB rfl h1 rfl
    refine g_iconst (q := 30) (v := (nI 0)) dX8_completeTick_29 rfl (by decide) ?_
    refine g_istore (q := 32) dX8_completeTick_30 rfl (by decide) rfl ?_
    refine g_iconst (q := 33) (v := (nI 0)) dX8_completeTick_32 rfl (by decide) ?_
    refine g_istore (q := 35) dX8_completeTick_33 rfl (by decide) rfl ?_
    refine g_lvs (lv1 := [(5, .int (nI 0)), (4, .int (nI 0)), (3, .ref (o + 54 + 1 + 7)), (0, .ref o), (1, .int (nI 0)), (2, .int (nI k))]) ⟨rfl, rfl, rfl, rfl, rfl, rfl, trivial⟩ ?_
    have hlk : s_like A.s (s_cm A.s (s_m R.rF.2.2.1) (s_m R.rF.2.2.2)) := ⟨_, _, rfl⟩
    exact K _ hlk (hlk.inv hin) (hlk.t2 ht2) 500 0 0 (R.u_rF (s_cps R.rF R.rS A.s)) _ rfl (Nat.le_refl _) (by omega) (fun j hj => absurd hj (by omega)) hB ⟨hn6, hb6, hpq, hT, hD, hS, hnw, hlen, hrg, hs0, hs1⟩ (s_cps_rep hS)
  · have K : ∀ (τ : Si), s_like A.s τ → s_inv A.D τ → s_t2 τ → ∀ (m i n : Nat) (R : WR) (g1 : Nat → va_E), i + m = 500 → i ≤ n → n ≤ 500 → (∀ j, j < n → s_st A.D τ 1 k j = 1) → bz_B L g g1 (w_bs E o A R) → w_ok E o A R → s_srep R.rF (s_run A.D n τ) → bz_G l E mX8_completeTick (bz_R 7 0 0) L sz (bz_Fm E L sz (fun r g1 => ∃ τ : Si, s_like A.s τ ∧ (∀ cn, s_cn (s_st A.D τ 1 k) N 0 = cn → r = some (.int (if s_st A.D τ 1 k cn = 2 then nI (τ.1 + cn) else -1))) ∧ w_P E L g o A g1)) sz 0 0 L g1 35 [(5, .int (nI i)), (4, .int (nI n)), (3, .ref (o + 54 + 14 + 7)), (0, .ref o), (1, .int (nI 1)), (2, .int (nI k))] [] := by
      intro τ hlk hin ht2 m
      have htm := hlk.tm
      induction m with
      | zero =>
        intro i n R g1 hi hle hn5 hal hB hk hF
        have hle2 : s_st A.D τ 1 k n ≤ 2 := (ht2.run n).le hk8
        have hcn : s_cn (s_st A.D τ 1 k) N 0 = n := s_cn_at N 0 n (Nat.zero_le _) (by omega) (fun j _ hj => hal j hj) (Or.inl (by omega))
        by_cases h2 : s_st A.D τ 1 k n = 2
        ·
          refine g_iload (q := 37) dX8_completeTick_35 rfl rfl ?_
          refine g_sipush (q := 40) (v := (nI 500)) dX8_completeTick_37 rfl (by decide) ?_
          refine g_icmpN_ge (q := 43) (t := 88) dX8_completeTick_40 rfl (by decide) (by omega) (by omega) (fun _ => ?_) (fun c => absurd c (by omega))
          refine g_aload_n (q := 89) dX8_completeTick_88 rfl rfl ?_
          refine g_iload_n (q := 90) dX8_completeTick_89 rfl rfl ?_
          refine gb_callV (q := 93) (j := 6) (i := 21) dX8_completeTick_90 rfl kv_X8_171 (c_stateOf (t := k) hk8 ((hB.1.at (j := 6) rfl).sub 21 rfl)) rfl (by decide) hB rfl rfl rfl rfl (bz_le rfl) (by decide) (by decide) (fun r g1 hQ => ?_)
          obtain ⟨rfl, hg⟩ := hQ
          have hg := hg.symm
          subst hg
          refine g_eqi (v := nI (s_st A.D τ 1 k n)) (hF.2.2.2.2.2.2.2.2.1.1 k hk8).1 ?_
          refine g_iconst (q := 94) (v := (nI 2)) dX8_completeTick_93 rfl (by decide) ?_
          refine g_icmpN_ne (q := 97) (t := 107) dX8_completeTick_94 rfl (by decide) (by omega) (by omega) (fun c => absurd c (by omega)) (fun _ => ?_)
          refine g_aload_n (q := 98) dX8_completeTick_97 rfl rfl ?_
          refine gb_getf (q := 101) (j := 0) (i := 0) dX8_completeTick_98 rfl fl_X8_37 hB rfl rfl rfl rfl ?_
          refine gb_getf (q := 104) (j := 6) (i := 0) dX8_completeTick_101 rfl fl_X8_98 hB rfl rfl rfl rfl ?_
          refine g_eqi (v := nI (τ.1 + n)) (by rw [hF.1, s_run1]) ?_
          refine g_goto (q := 108) dX8_completeTick_104 (by decide) ?_
          exact g_iret dX8_completeTick_108 rfl (⟨τ, hlk, fun c9 h9 => by rw [← h9, hcn, if_pos h2], w_to hB hk⟩)
        ·
          refine g_iload (q := 37) dX8_completeTick_35 rfl rfl ?_
          refine g_sipush (q := 40) (v := (nI 500)) dX8_completeTick_37 rfl (by decide) ?_
          refine g_icmpN_ge (q := 43) (t := 88) dX8_completeTick_40 rfl (by decide) (by omega) (by omega) (fun _ => ?_) (fun c => absurd c (by omega))
          refine g_aload_n (q := 89) dX8_completeTick_88 rfl rfl ?_
          refine g_iload_n (q := 90) dX8_completeTick_89 rfl rfl ?_
          refine gb_callV (q := 93) (j := 6) (i := 21) dX8_completeTick_90 rfl kv_X8_171 (c_stateOf (t := k) hk8 ((hB.1.at (j := 6) rfl).sub 21 rfl)) rfl (by decide) hB rfl rfl rfl rfl (bz_le rfl) (by decide) (by decide) (fun r g1 hQ => ?_)
          obtain ⟨rfl, hg⟩ := hQ
          have hg := hg.symm
          subst hg
          refine g_eqi (v := nI (s_st A.D τ 1 k n)) (hF.2.2.2.2.2.2.2.2.1.1 k hk8).1 ?_
          refine g_iconst (q := 94) (v := (nI 2)) dX8_completeTick_93 rfl (by decide) ?_
          refine g_icmpN_ne (q := 97) (t := 107) dX8_completeTick_94 rfl (by decide) (by omega) (by omega) (fun _ => ?_) (fun c => absurd c (by omega))
          refine g_iconst (q := 108) (v := (-1)) dX8_completeTick_107 rfl (by decide) ?_
          exact g_iret dX8_completeTick_108 rfl (⟨τ, hlk, fun c9 h9 => by rw [← h9, hcn, if_neg h2], w_to hB hk⟩)
      | succ m ih =>
        intro i n R g1 hi hle hn5 hal hB hk hF
        have hle2 : s_st A.D τ 1 k n ≤ 2 := (ht2.run n).le hk8
        by_cases hn : n = 500
        ·
          have hcn : s_cn (s_st A.D τ 1 k) N 0 = n := s_cn_at N 0 n (Nat.zero_le _) (by omega) (fun j _ hj => hal j hj) (Or.inl (by omega))
          by_cases h2 : s_st A.D τ 1 k n = 2
          ·
            refine g_iload (q := 37) dX8_completeTick_35 rfl rfl ?_
            refine g_sipush (q := 40) (v := (nI 500)) dX8_completeTick_37 rfl (by decide) ?_
            refine g_icmpN_ge (q := 43) (t := 88) dX8_completeTick_40 rfl (by decide) (by omega) (by omega) (fun c => absurd c (by omega)) (fun _ => ?_)
            refine g_iload (q := 45) dX8_completeTick_43 rfl rfl ?_
            refine g_sipush (q := 48) (v := (nI 500)) dX8_completeTick_45 rfl (by decide) ?_
            refine g_icmpN_ge (q := 51) (t := 88) dX8_completeTick_48 rfl (by decide) (by omega) (by omega) (fun _ => ?_) (fun c => absurd c (by omega))
            refine g_aload_n (q := 89) dX8_completeTick_88 rfl rfl ?_
            refine g_iload_n (q := 90) dX8_completeTick_89 rfl rfl ?_
            refine gb_callV (q := 93) (j := 6) (i := 21) dX8_completeTick_90 rfl kv_X8_171 (c_stateOf (t := k) hk8 ((hB.1.at (j := 6) rfl).sub 21 rfl)) rfl (by decide) hB rfl rfl rfl rfl (bz_le rfl) (by decide) (by decide) (fun r g1 hQ => ?_)
            obtain ⟨rfl, hg⟩ := hQ
            have hg := hg.symm
            subst hg
            refine g_eqi (v := nI (s_st A.D τ 1 k n)) (hF.2.2.2.2.2.2.2.2.1.1 k hk8).1 ?_
            refine g_iconst (q := 94) (v := (nI 2)) dX8_completeTick_93 rfl (by decide) ?_
            refine g_icmpN_ne (q := 97) (t := 107) dX8_completeTick_94 rfl (by decide) (by omega) (by omega) (fun c => absurd c (by omega)) (fun _ => ?_)
            refine g_aload_n (q := 98) dX8_completeTick_97 rfl rfl ?_
            refine gb_getf (q := 101) (j := 0) (i := 0) dX8_completeTick_98 rfl fl_X8_37 hB rfl rfl rfl rfl ?_
            refine gb_getf (q := 104) (j := 6) (i := 0) dX8_completeTick_101 rfl fl_X8_98 hB rfl rfl rfl rfl ?_
            refine g_eqi (v := nI (τ.1 + n)) (by rw [hF.1, s_run1]) ?_
            refine g_goto (q := 108) dX8_completeTick_104 (by decide) ?_
            exact g_iret dX8_completeTick_108 rfl (⟨τ, hlk, fun c9 h9 => by rw [← h9, hcn, if_pos h2], w_to hB hk⟩)
          ·
            refine g_iload (q := 37) dX8_completeTick_35 rfl rfl ?_
            refine g_sipush (q := 40) (v := (nI 500)) dX8_completeTick_37 rfl (by decide) ?_
            refine g_icmpN_ge (q := 43) (t := 88) dX8_completeTick_40 rfl (by decide) (by omega) (by omega) (fun c => absurd c (by omega)) (fun _ => ?_)
            refine g_iload (q := 45) dX8_completeTick_43 rfl rfl ?_
            refine g_sipush (q := 48) (v := (nI 500)) dX8_completeTick_45 rfl (by decide) ?_
            refine g_icmpN_ge (q := 51) (t := 88) dX8_completeTick_48 rfl (by decide) (by omega) (by omega) (fun _ => ?_) (fun c => absurd c (by omega))
            refine g_aload_n (q := 89) dX8_completeTick_88 rfl rfl ?_
            refine g_iload_n (q := 90) dX8_completeTick_89 rfl rfl ?_
            refine gb_callV (q := 93) (j := 6) (i := 21) dX8_completeTick_90 rfl kv_X8_171 (c_stateOf (t := k) hk8 ((hB.1.at (j := 6) rfl).sub 21 rfl)) rfl (by decide) hB rfl rfl rfl rfl (bz_le rfl) (by decide) (by decide) (fun r g1 hQ => ?_)
            obtain ⟨rfl, hg⟩ := hQ
            have hg := hg.symm
            subst hg
            refine g_eqi (v := nI (s_st A.D τ 1 k n)) (hF.2.2.2.2.2.2.2.2.1.1 k hk8).1 ?_
            refine g_iconst (q := 94) (v := (nI 2)) dX8_completeTick_93 rfl (by decide) ?_
            refine g_icmpN_ne (q := 97) (t := 107) dX8_completeTick_94 rfl (by decide) (by omega) (by omega) (fun _ => ?_) (fun c => absurd c (by omega))
            refine g_iconst (q := 108) (v := (-1)) dX8_completeTick_107 rfl (by decide) ?_
            exact g_iret dX8_completeTick_108 rfl (⟨τ, hlk, fun c9 h9 => by rw [← h9, hcn, if_neg h2], w_to hB hk⟩)
        · by_cases h1s : s_st A.D τ 1 k n = 1
          · have hin2 := hin.run (pl := A.D) hd.2.2.1.1 n
            obtain ⟨hn6, hb6, hpq, hT, hD, hS, hnw, hlen, hrg, hs0, hs1⟩ := id hk
            refine g_iload (q := 37) dX8_completeTick_35 rfl rfl ?_
            refine g_sipush (q := 40) (v := (nI 500)) dX8_completeTick_37 rfl (by decide) ?_
            refine g_icmpN_ge (q := 43) (t := 88) dX8_completeTick_40 rfl (by decide) (by omega) (by omega) (fun c => absurd c (by omega)) (fun _ => ?_)
            refine g_iload (q := 45) dX8_completeTick_43 rfl rfl ?_
            refine g_sipush (q := 48) (v := (nI 500)) dX8_completeTick_45 rfl (by decide) ?_
            refine g_icmpN_ge (q := 51) (t := 88) dX8_completeTick_48 rfl (by decide) (by omega) (by omega) (fun c => absurd c (by omega)) (fun _ => ?_)
            refine g_aload_n (q := 52) dX8_completeTick_51 rfl rfl ?_
            refine g_iload_n (q := 53) dX8_completeTick_52 rfl rfl ?_
            refine gb_callV (q := 56) (j := 6) (i := 21) dX8_completeTick_53 rfl kv_X8_171 (c_stateOf (t := k) hk8 ((hB.1.at (j := 6) rfl).sub 21 rfl)) rfl (by decide) hB rfl rfl rfl rfl (bz_le rfl) (by decide) (by decide) (fun r g1 hQ => ?_)
            obtain ⟨rfl, hg⟩ := hQ
            have hg := hg.symm
            subst hg
            refine g_eqi (v := nI (s_st A.D τ 1 k n)) (hF.2.2.2.2.2.2.2.2.1.1 k hk8).1 ?_
            refine g_iconst (q := 57) (v := (nI 1)) dX8_completeTick_56 rfl (by decide) ?_
            refine g_icmpN_ne (q := 60) (t := 88) dX8_completeTick_57 rfl (by decide) (by omega) (by omega) (fun c => absurd c (by omega)) (fun _ => ?_)
            refine g_iload (q := 62) dX8_completeTick_60 rfl rfl ?_
            refine g_aload_n (q := 63) dX8_completeTick_62 rfl rfl ?_
            refine gb_getf (q := 66) (j := 0) (i := 0) dX8_completeTick_63 rfl fl_X8_37 hB rfl rfl rfl rfl ?_
            refine g_aload_n (q := 67) dX8_completeTick_66 rfl rfl ?_
            refine gb_getf (q := 70) (j := 0) (i := 0) dX8_completeTick_67 rfl fl_X8_23 hB rfl rfl rfl rfl ?_
            refine g_sipush (q := 73) (v := (nI 500)) dX8_completeTick_70 rfl (by decide) ?_
            refine g_iload (q := 75) dX8_completeTick_73 rfl rfl ?_
            refine g_isubN (q := 76) dX8_completeTick_75 rfl (by omega) ?_
            refine gb_callV (q := 79) (j := 6) (i := 0) dX8_completeTick_76 rfl kv_X8_212 (c_advance (o := o + 54) (p := R.p) (most := 500 - n) (r0 := R.rF) (σ := s_run A.D n τ) (pl := A.D) hF (by rw [s_run1]; omega) ⟨by omega, by omega⟩ hin2.1 hin2.2.1 (hD.lpl hd) (w_pick2 hB.1 6 3 rfl rfl (by decide))) rfl (by decide) hB rfl rfl rfl rfl (bz_le rfl) (by decide) (by decide) (fun r g1 hQ => ?_)
            obtain ⟨rfl, r1, v0', v1', h1, hs1', hmv⟩ := hQ
            have hB := w_advF (r1 := r1) (v0 := v0') (v1 := v1') hB h1
            have hrun := (s_idle_run (pl := A.D) (most := 500 - n) (σ := s_run A.D n τ)).1
            rw [← hrun, ← s_run_add] at hs1'
            have hidle := s_idle_le (pl := A.D) (σ := s_run A.D n τ) (show 1 ≤ 500 - n by omega)
            refine g_iaddN (q := 80) dX8_completeTick_79 rfl ?_
            refine g_istore (q := 82) dX8_completeTick_80 rfl (by decide) rfl ?_
            refine g_iincN (q := 85) (c := 1) dX8_completeTick_82 rfl (by decide) rfl rfl (by decide) ?_
            refine g_goto (q := 35) dX8_completeTick_85 (by decide) ?_
            refine g_lvs (lv1 := [(5, .int (nI (i + 1))), (4, .int (nI (n + (1 + s_idle A.D (500 - n) (s_run A.D n τ))))), (3, .ref (o + 54 + 14 + 7)), (0, .ref o), (1, .int (nI 1)), (2, .int (nI k))]) ⟨rfl, rfl, rfl, rfl, rfl, rfl, trivial⟩ ?_
            exact ih (i + 1) (n + (1 + s_idle A.D (500 - n) (s_run A.D n τ))) ((R.u_rF r1).u_rp (w_pv R.rp v0' v1')) _ (by omega) (by omega) (by omega) (fun j hj => by rcases Nat.lt_or_ge j n with c | c; exact hal j c; exact (s_st_id c hj).trans h1s) hB ⟨hn6, hb6, hpq, hT, w_pv_rep hD, hS, hnw, hlen, hrg, hs0, hs1⟩ hs1'
          ·
            have hcn : s_cn (s_st A.D τ 1 k) N 0 = n := s_cn_at N 0 n (Nat.zero_le _) (by omega) (fun j _ hj => hal j hj) (Or.inr h1s)
            by_cases h2 : s_st A.D τ 1 k n = 2
            ·
              refine g_iload (q := 37) dX8_completeTick_35 rfl rfl ?_
              refine g_sipush (q := 40) (v := (nI 500)) dX8_completeTick_37 rfl (by decide) ?_
              refine g_icmpN_ge (q := 43) (t := 88) dX8_completeTick_40 rfl (by decide) (by omega) (by omega) (fun c => absurd c (by omega)) (fun _ => ?_)
              refine g_iload (q := 45) dX8_completeTick_43 rfl rfl ?_
              refine g_sipush (q := 48) (v := (nI 500)) dX8_completeTick_45 rfl (by decide) ?_
              refine g_icmpN_ge (q := 51) (t := 88) dX8_completeTick_48 rfl (by decide) (by omega) (by omega) (fun c => absurd c (by omega)) (fun _ => ?_)
              refine g_aload_n (q := 52) dX8_completeTick_51 rfl rfl ?_
              refine g_iload_n (q := 53) dX8_completeTick_52 rfl rfl ?_
              refine gb_callV (q := 56) (j := 6) (i := 21) dX8_completeTick_53 rfl kv_X8_171 (c_stateOf (t := k) hk8 ((hB.1.at (j := 6) rfl).sub 21 rfl)) rfl (by decide) hB rfl rfl rfl rfl (bz_le rfl) (by decide) (by decide) (fun r g1 hQ => ?_)
              obtain ⟨rfl, hg⟩ := hQ
              have hg := hg.symm
              subst hg
              refine g_eqi (v := nI (s_st A.D τ 1 k n)) (hF.2.2.2.2.2.2.2.2.1.1 k hk8).1 ?_
              refine g_iconst (q := 57) (v := (nI 1)) dX8_completeTick_56 rfl (by decide) ?_
              refine g_icmpN_ne (q := 60) (t := 88) dX8_completeTick_57 rfl (by decide) (by omega) (by omega) (fun _ => ?_) (fun c => absurd c (by omega))
              refine g_aload_n (q := 89) dX8_completeTick_88 rfl rfl ?_
              refine g_iload_n (q := 90) dX8_completeTick_89 rfl rfl ?_
              refine gb_callV (q := 93) (j := 6) (i := 21) dX8_completeTick_90 rfl kv_X8_171 (c_stateOf (t := k) hk8 ((hB.1.at (j := 6) rfl).sub 21 rfl)) rfl (by decide) hB rfl rfl rfl rfl (bz_le rfl) (by decide) (by decide) (fun r g1 hQ => ?_)
              obtain ⟨rfl, hg⟩ := hQ
              have hg := hg.symm
              subst hg
              refine g_eqi (v := nI (s_st A.D τ 1 k n)) (hF.2.2.2.2.2.2.2.2.1.1 k hk8).1 ?_
              refine g_iconst (q := 94) (v := (nI 2)) dX8_completeTick_93 rfl (by decide) ?_
              refine g_icmpN_ne (q := 97) (t := 107) dX8_completeTick_94 rfl (by decide) (by omega) (by omega) (fun c => absurd c (by omega)) (fun _ => ?_)
              refine g_aload_n (q := 98) dX8_completeTick_97 rfl rfl ?_
              refine gb_getf (q := 101) (j := 0) (i := 0) dX8_completeTick_98 rfl fl_X8_37 hB rfl rfl rfl rfl ?_
              refine gb_getf (q := 104) (j := 6) (i := 0) dX8_completeTick_101 rfl fl_X8_98 hB rfl rfl rfl rfl ?_
              refine g_eqi (v := nI (τ.1 + n)) (by rw [hF.1, s_run1]) ?_
              refine g_goto (q := 108) dX8_completeTick_104 (by decide) ?_
              exact g_iret dX8_completeTick_108 rfl (⟨τ, hlk, fun c9 h9 => by rw [← h9, hcn, if_pos h2], w_to hB hk⟩)
            ·
              refine g_iload (q := 37) dX8_completeTick_35 rfl rfl ?_
              refine g_sipush (q := 40) (v := (nI 500)) dX8_completeTick_37 rfl (by decide) ?_
              refine g_icmpN_ge (q := 43) (t := 88) dX8_completeTick_40 rfl (by decide) (by omega) (by omega) (fun c => absurd c (by omega)) (fun _ => ?_)
              refine g_iload (q := 45) dX8_completeTick_43 rfl rfl ?_
              refine g_sipush (q := 48) (v := (nI 500)) dX8_completeTick_45 rfl (by decide) ?_
              refine g_icmpN_ge (q := 51) (t := 88) dX8_completeTick_48 rfl (by decide) (by omega) (by omega) (fun c => absurd c (by omega)) (fun _ => ?_)
              refine g_aload_n (q := 52) dX8_completeTick_51 rfl rfl ?_
              refine g_iload_n (q := 53) dX8_completeTick_52 rfl rfl ?_
              refine gb_callV (q := 56) (j := 6) (i := 21) dX8_completeTick_53 rfl kv_X8_171 (c_stateOf (t := k) hk8 ((hB.1.at (j := 6) rfl).sub 21 rfl)) rfl (by decide) hB rfl rfl rfl rfl (bz_le rfl) (by decide) (by decide) (fun r g1 hQ => ?_)
              obtain ⟨rfl, hg⟩ := hQ
              have hg := hg.symm
              subst hg
              refine g_eqi (v := nI (s_st A.D τ 1 k n)) (hF.2.2.2.2.2.2.2.2.1.1 k hk8).1 ?_
              refine g_iconst (q := 57) (v := (nI 1)) dX8_completeTick_56 rfl (by decide) ?_
              refine g_icmpN_ne (q := 60) (t := 88) dX8_completeTick_57 rfl (by decide) (by omega) (by omega) (fun _ => ?_) (fun c => absurd c (by omega))
              refine g_aload_n (q := 89) dX8_completeTick_88 rfl rfl ?_
              refine g_iload_n (q := 90) dX8_completeTick_89 rfl rfl ?_
              refine gb_callV (q := 93) (j := 6) (i := 21) dX8_completeTick_90 rfl kv_X8_171 (c_stateOf (t := k) hk8 ((hB.1.at (j := 6) rfl).sub 21 rfl)) rfl (by decide) hB rfl rfl rfl rfl (bz_le rfl) (by decide) (by decide) (fun r g1 hQ => ?_)
              obtain ⟨rfl, hg⟩ := hQ
              have hg := hg.symm
              subst hg
              refine g_eqi (v := nI (s_st A.D τ 1 k n)) (hF.2.2.2.2.2.2.2.2.1.1 k hk8).1 ?_
              refine g_iconst (q := 94) (v := (nI 2)) dX8_completeTick_93 rfl (by decide) ?_
              refine g_icmpN_ne (q := 97) (t := 107) dX8_completeTick_94 rfl (by decide) (by omega) (by omega) (fun _ => ?_) (fun c => absurd c (by omega))
              refine g_iconst (q := 108) (v := (-1)) dX8_completeTick_107 rfl (by decide) ?_
              exact g_iret dX8_completeTick_108 rfl (⟨τ, hlk, fun c9 h9 => by rw [← h9, hcn, if_neg h2], w_to hB hk⟩)
    have hk8' := hk8
    refine g_aload_n (q := 1) dX8_completeTick_0 rfl rfl ?_
    refine g_iload_n (q := 2) dX8_completeTick_1 rfl rfl ?_
    refine g_iload_n (q := 3) dX8_completeTick_2 rfl rfl ?_
    refine gb_callV (q := 6) (j := 0) (i := 0) dX8_completeTick_3 rfl kv_X8_164 (c8_tag0 hs hd.2.2.2.1.2 hk9 hS hD (w_pick3 hB.1 0 3 5 rfl rfl rfl (by decide) (by decide) (by decide))) rfl (by decide) hB rfl rfl rfl rfl (bz_le rfl) (by decide) (by decide) (fun r g1 hQ => ?_)
    obtain ⟨rfl, hg⟩ := hQ
    have hg := hg.symm
    subst hg
    refine g_aload_n (q := 7) dX8_completeTick_6 rfl rfl ?_
    refine gb_getf (q := 10) (j := 0) (i := 0) dX8_completeTick_7 rfl fl_X8_37 hB rfl rfl rfl rfl ?_
    refine g_iload_n (q := 11) dX8_completeTick_10 rfl rfl ?_
    refine gb_callV (q := 14) (j := 6) (i := 0) dX8_completeTick_11 rfl kv_X8_119 (c_portOf1 (hB.1.at (j := 6) rfl)) rfl (by decide) hB rfl rfl rfl rfl (bz_le rfl) (by decide) (by decide) (fun r g1 hQ => ?_)
    obtain ⟨rfl, hg⟩ := hQ
    have hg := hg.symm
    subst hg
    refine gb_getf (q := 17) (j := 6) (i := 14) dX8_completeTick_14 rfl fl_X8_167 hB rfl rfl rfl rfl ?_
    refine g_astore_n (q := 18) rfl dX8_completeTick_17 rfl (by decide) rfl ?_
    refine g_aload_n (q := 19) dX8_completeTick_18 rfl rfl ?_
    refine gb_getf (q := 22) (j := 0) (i := 0) dX8_completeTick_19 rfl fl_X8_37 hB rfl rfl rfl rfl ?_
    refine g_aload_n (q := 23) dX8_completeTick_22 rfl rfl ?_
    refine gb_getf (q := 26) (j := 0) (i := 0) dX8_completeTick_23 rfl fl_X8_33 hB rfl rfl rfl rfl ?_
    refine gb_callV (q := 29) (j := 6) (i := 0) dX8_completeTick_26 rfl kv_X8_208 (c_scopyFrom (r0 := R.rF) (r2 := R.rS) (σ := A.s) hS (hB.1.at (j := 6) rfl) (hB.1.at (j := 5) rfl) (by omega)) rfl (by decide) hB rfl rfl rfl rfl (bz_le rfl) (by decide) (by decide) (fun r g1 hQ => ?_)
    obtain ⟨rfl, h1⟩ := hQ
    have hB : bz_B _ _ _ (w_bs E o A (R.u_rF (s_cps R.rF R.rS A.s))) := w_B1 (j := 6) hB rfl h1 rfl
    refine g_iconst (q := 30) (v := (nI 0)) dX8_completeTick_29 rfl (by decide) ?_
    refine g_istore (q := 32) dX8_completeTick_30 rfl (by decide) rfl ?_
    refine g_iconst (q := 33) (v := (nI 0)) dX8_completeTick_32 rfl (by decide) ?_
    refine g_istore (q := 35) dX8_completeTick_33 rfl (by decide) rfl ?_
    refine g_lvs (lv1 := [(5, .int (nI 0)), (4, .int (nI 0)), (3, .ref (o + 54 + 14 + 7)), (0, .ref o), (1, .int (nI 1)), (2, .int (nI k))]) ⟨rfl, rfl, rfl, rfl, rfl, rfl, trivial⟩ ?_
    have hlk : s_like A.s (s_cm A.s (s_m R.rF.2.2.1) (s_m R.rF.2.2.2)) := ⟨_, _, rfl⟩
    exact K _ hlk (hlk.inv hin) (hlk.t2 ht2) 500 0 0 (R.u_rF (s_cps R.rF R.rS A.s)) _ rfl (Nat.le_refl _) (by omega) (fun j hj => absurd hj (by omega)) hB ⟨hn6, hb6, hpq, hT, hD, hS, hnw, hlen, hrg, hs0, hs1⟩ (s_cps_rep hS)
set_option maxRecDepth 20000 in
set_option maxHeartbeats 1000000 in
theorem c8_completeTick2 {l : Launch} {E : bz_E} {L : List Nat} {g : Nat → va_E} {o : Nat} {A : WA} {v w : Int32} (hl : l.stackTraces = false) (hb : m_bad v 2 = true) (hX : w_X E L g o A) : bz_KX l E mX8_completeTick 8 [.ref o, .int v, .int w] L g x_IOE := by
  refine bz_KX.of (by decide) (bz_le rfl) (fun sz => ?_)
  obtain ⟨R, hW, hk⟩ := hX
  have hB := bz_B.rf hW
  obtain ⟨hn6, hb6, hpq, hT, hD, hS, hnw, hlen, hrg, hs0, hs1⟩ := hk
  show bz_G _ _ _ _ _ _ _ _ _ _ _ _ 0 [(0, .ref o), (1, .int v), (2, .int w)] []
  refine g_aload_n (q := 1) dX8_completeTick_0 rfl rfl ?_
  refine g_iload_n (q := 2) dX8_completeTick_1 rfl rfl ?_
  refine g_iload_n (q := 3) dX8_completeTick_2 rfl rfl ?_
  exact g_callVX dX8_completeTick_3 (by decide +kernel) kv_X8_164 (c8_tag2 hl hb) rfl (by decide) (hW.at (j := 0) rfl 0 _ rfl).1 (hW.at (j := 0) rfl 0 _ rfl).2 rfl (bz_le rfl)
set_option maxRecDepth 20000 in
set_option maxHeartbeats 1000000 in
theorem c8_completeTick1 {l : Launch} {E : bz_E} {L : List Nat} {g : Nat → va_E} {o : Nat} {A : WA} {s : Nat} {w : Int32} (hl : l.stackTraces = false) (hs : s < 2) (hd : d_ok A.D) (hb : m_bad w A.D.2.2.2.2.2.1 = true) (hX : w_X E L g o A) : bz_KX l E mX8_completeTick 8 [.ref o, .int (nI s), .int w] L g x_IOE := by
  refine bz_KX.of (by decide) (bz_le rfl) (fun sz => ?_)
  obtain ⟨R, hW, hk⟩ := hX
  have hB := bz_B.rf hW
  obtain ⟨hn6, hb6, hpq, hT, hD, hS, hnw, hlen, hrg, hs0, hs1⟩ := hk
  show bz_G _ _ _ _ _ _ _ _ _ _ _ _ 0 [(0, .ref o), (1, .int (nI s)), (2, .int w)] []
  refine g_aload_n (q := 1) dX8_completeTick_0 rfl rfl ?_
  refine g_iload_n (q := 2) dX8_completeTick_1 rfl rfl ?_
  refine g_iload_n (q := 3) dX8_completeTick_2 rfl rfl ?_
  exact g_callVX dX8_completeTick_3 (by decide +kernel) kv_X8_164 (c8_tag1 hl hs hd.2.2.2.1.2 hb hS hD (w_pick3 hB.1 0 3 5 rfl rfl rfl (by decide) (by decide) (by decide))) rfl (by decide) (hW.at (j := 0) rfl 0 _ rfl).1 (hW.at (j := 0) rfl 0 _ rfl).2 rfl (bz_le rfl)
