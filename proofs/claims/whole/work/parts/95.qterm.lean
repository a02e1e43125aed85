/-! the reference: factor, term, sum -/
theorem q_rk0 {c : Nat} (h2 : t_rk c ≠ 2) (h1 : c ≠ 43) (h3 : c ≠ 45) : t_rk c = 0 := by
  have h4 := t_rk_le c
  have h5 : t_rk c ≠ 1 := fun h => by have := t_rk_1.mp h; omega
  omega
set_option maxRecDepth 20000 in
set_option maxHeartbeats 2000000 in
theorem q_term {l : Launch} {E : bz_E} {k : Nat} (hF : q_CF l E k) : q_CT l E k := by
  intro L g o I A b n a S u t hk5 htop hpre hH
  obtain ⟨hb, hn, h11, h9, ha, h20, h16, h21, hq, hx, hi⟩ := hpre
  have ht : t_is b n t := hi.1
  have hle := ht.le
  have h256 := ht.k256 hb
  refine bz_K.of (by decide) (bz_le rfl) (fun sz => ?_)
  show bz_G _ _ _ _ _ _ _ _ _ _ _ _ 0 [(0, .ref o)] []
  have hB := bz_B.rf (bz_W.one hH)
  have K : ∀ (m : Nat) (I1 : Nat → Int32) (A1 : Nat → Nat → Int32) (u1 : List Int32) (t1 : Tok) (S2 : List Nat) (u2 : List Int32) (g1 : Nat → va_E), n - kS t1 ≤ m → bz_B L g g1 [(o, b_Mod E o I1 A1)] → q_tk I1 t1 → q_fS I I1 → I1 16 = nI 0 → q_fE a A A1 → q_ex A1 a u1 → x_inv b n (false, S2, u2, t1) → kS t ≤ kS t1 → x_fl 2 S2 u2 = (S, u1) → (∀ z, x_fin b n (false, S2, u2, t1) z → x_fin b n (true, S, u, t) z) → bz_G l E mX9_term (bz_R (6 + 3 * k) 0 0) L sz (bz_Fm E L sz (q_post E L g o I A a b n S u t (q_RT b n S u t))) sz 0 0 L g1 9 [(0, .ref o)] [] := by
    intro m
    induction m with
    | zero =>
      intro I1 A1 u1 t1 S2 u2 g2 hm hB hq1 hf1 h161 hE1 hx1 hi1 hS1 hfl hfin
      have ht1 : t_is b n t1 := hi1.1
      have h2561 := ht1.k256 hb
      have hk0 : kK t1 = 0 := t_is_end ht1 (by omega)
      have KJ : kK t1 = 42 ∨ kK t1 = 47 ∨ kK t1 = 37 → bz_G l E mX9_term (bz_R (6 + 3 * k) 0 0) L sz (bz_Fm E L sz (q_post E L g o I A a b n S u t (q_RT b n S u t))) sz 0 0 L g2 36 [(0, .ref o)] [] := fun h => by exfalso; omega
      refine g_aload_n (q := 10) dX9_term_9 rfl rfl ?_
      refine g_bipush (q := 12) (v := (nI 42)) dX9_term_10 rfl (by decide) ?_
      refine gb_callV (q := 15) (j := 0) (i := 0) dX9_term_12 rfl kv_X9_142 (c_misSignHere (I := I1) (A := A1) (t := t1) (c := 42) hb (by decide) ht1 hq1 (hB.1.at (j := 0) rfl)) rfl (by omega) hB rfl rfl rfl rfl (bz_le rfl) (Nat.le_refl _) (Nat.le_refl _) (fun r g1 hQ => ?_)
      obtain ⟨rfl, hg⟩ := hQ
      have hg := hg.symm
      subst hg
      refine g_if_ne (q := 18) (t := 36) dX9_term_15 rfl (by decide) (fun c_15 => ?_) (fun c_15 => ?_)
      · exact KJ (by first | exact Or.inl (of_decide_eq_true (tB_1 c_15)) | exact Or.inr (Or.inl (of_decide_eq_true (tB_1 c_24))) | exact Or.inr (Or.inr (of_decide_eq_true (tB_1 c_33))))
      · refine g_aload_n (q := 19) dX9_term_18 rfl rfl ?_
        refine g_bipush (q := 21) (v := (nI 47)) dX9_term_19 rfl (by decide) ?_
        refine gb_callV (q := 24) (j := 0) (i := 0) dX9_term_21 rfl kv_X9_142 (c_misSignHere (I := I1) (A := A1) (t := t1) (c := 47) hb (by decide) ht1 hq1 (hB.1.at (j := 0) rfl)) rfl (by omega) hB rfl rfl rfl rfl (bz_le rfl) (Nat.le_refl _) (Nat.le_refl _) (fun r g1 hQ => ?_)
        obtain ⟨rfl, hg⟩ := hQ
        have hg := hg.symm
        subst hg
        refine g_if_ne (q := 27) (t := 36) dX9_term_24 rfl (by decide) (fun c_24 => ?_) (fun c_24 => ?_)
        · exact KJ (by first | exact Or.inl (of_decide_eq_true (tB_1 c_15)) | exact Or.inr (Or.inl (of_decide_eq_true (tB_1 c_24))) | exact Or.inr (Or.inr (of_decide_eq_true (tB_1 c_33))))
        · refine g_aload_n (q := 28) dX9_term_27 rfl rfl ?_
          refine g_bipush (q := 30) (v := (nI 37)) dX9_term_28 rfl (by decide) ?_
          refine gb_callV (q := 33) (j := 0) (i := 0) dX9_term_30 rfl kv_X9_142 (c_misSignHere (I := I1) (A := A1) (t := t1) (c := 37) hb (by decide) ht1 hq1 (hB.1.at (j := 0) rfl)) rfl (by omega) hB rfl rfl rfl rfl (bz_le rfl) (Nat.le_refl _) (Nat.le_refl _) (fun r g1 hQ => ?_)
          obtain ⟨rfl, hg⟩ := hQ
          have hg := hg.symm
          subst hg
          refine g_if_eq (q := 36) (t := 89) dX9_term_33 rfl (by decide) (fun c_33 => ?_) (fun c_33 => ?_)
          · refine g_iconst (q := 90) (v := (nI 1)) dX9_term_89 rfl (by decide) ?_
            exact g_zret dX9_term_90 rfl rfl (Or.inl ⟨rfl, I1, A1, u1, t1, hB, hq1, hf1, h161, hE1, hx1, S2, u2, hi1, hS1, hfl, fun h => by have := t_rk_2.mp h; have := of_decide_eq_false (tB_0 c_15); have := of_decide_eq_false (tB_0 c_24); have := of_decide_eq_false (tB_0 c_33); omega, hfin⟩)
          · exact KJ (by first | exact Or.inl (of_decide_eq_true (tB_1 c_15)) | exact Or.inr (Or.inl (of_decide_eq_true (tB_1 c_24))) | exact Or.inr (Or.inr (of_decide_eq_true (tB_1 c_33))))
    | succ m ih =>
      intro I1 A1 u1 t1 S2 u2 g2 hm hB hq1 hf1 h161 hE1 hx1 hi1 hS1 hfl hfin
      have ht1 : t_is b n t1 := hi1.1
      have hle1 := ht1.le
      have h2561 := ht1.k256 hb
      have KJ : kK t1 = 42 ∨ kK t1 = 47 ∨ kK t1 = 37 → bz_G l E mX9_term (bz_R (6 + 3 * k) 0 0) L sz (bz_Fm E L sz (q_post E L g o I A a b n S u t (q_RT b n S u t))) sz 0 0 L g2 36 [(0, .ref o)] [] := by
        intro hop
        have hrk2 : t_rk (kK t1) = 2 := t_rk_2.mpr hop
        have hrk : 0 < t_rk (kK t1) := by omega
        have hs := x_step_op (b := b) (n := n) (S := S2) (u := u2) (t := t1) hrk
        have hsx : ((true, kK t1 :: (x_fl (t_rk (kK t1)) S2 u2).1, (x_fl (t_rk (kK t1)) S2 u2).2, t_nx b n t1) : Xs) = (true, kK t1 :: S, u1, t_nx b n t1) := by rw [hrk2, hfl]
        have hi3 : x_inv b n (true, kK t1 :: S, u1, t_nx b n t1) := by rw [← hsx]; exact hi1.step hs
        have hlt := t_nx_lt ht1 (show kK t1 ≠ 0 by omega)
        have KP : bz_G l E mX9_term (bz_R (6 + 3 * k) 0 0) L sz (bz_Fm E L sz (q_post E L g o I A a b n S u t (q_RT b n S u t))) sz 0 0 L g2 66 [(0, .ref o)] [.int (m_cd (-(nI (kK t1))))] := by
          refine g_istore_n (q := 67) rfl dX9_term_66 rfl (by decide) rfl ?_
          refine g_aload_n (q := 68) dX9_term_67 rfl rfl ?_
          refine gb_callV (q := 71) (j := 0) (i := 0) dX9_term_68 rfl kv_X9_139 (c_madvance (I := I1) (A := A1) (p := kE t1) hb hn ((hf1 11 (Or.inl (by decide))).trans h11) (fun i hi9 => by rw [hE1.1 9 (by decide) (by decide)]; exact h9 i hi9) (by omega) hq1.2.1 (hB.1.at (j := 0) rfl)) rfl (by omega) hB rfl rfl rfl rfl (bz_le rfl) (Nat.le_refl _) (Nat.le_refl _) (fun r g1 hQ => ?_)
          obtain ⟨rfl, I3, t3, h1, rfl, hq3, hf3⟩ := hQ
          have hB := hB.sp (j := 0) rfl 0 rfl h1 (bz_le rfl)
          have hq3 : q_tk I3 (t_nx b n t1) := hq3
          refine g_aload_n (q := 72) dX9_term_71 rfl rfl ?_
          refine gb_callV (q := 75) (j := 0) (i := 0) dX9_term_72 rfl kv_X9_192 (hF (I := I3) (A := A1) (a := a) (b := b) (n := n) (S := kK t1 :: S) (u := u1) (t := t_nx b n t1) (by rw [x_open_op hrk]; exact hk5) ⟨hb, hn, (hf3 11 (Or.inl (by decide))).trans ((hf1 11 (Or.inl (by decide))).trans h11), fun i hi9 => by rw [hE1.1 9 (by decide) (by decide)]; exact h9 i hi9, ha, (hf3 20 (Or.inr (by decide))).trans ((hf1 20 (Or.inr (by decide))).trans h20), (hf3 16 (Or.inr (by decide))).trans h161, by rw [x_open_op hrk]; exact (hf3 21 (Or.inr (by decide))).trans ((hf1 21 (Or.inr (by decide))).trans h21), hq3, hx1, hi3⟩ (hB.1.at (j := 0) rfl)) rfl (by omega) hB rfl rfl rfl rfl (bz_le rfl) (Nat.le_refl _) (Nat.le_refl _) (fun r g1 hQ => ?_)
          rcases hQ with ⟨rfl, I4, A4, u4, t4, h1, hq4, hf4, h164, hE4, hx4, hR4⟩ | ⟨rfl, I4, A4, e4, h1, hc4, hp4, hf4, hE4, hR4⟩
          · have hB := hB.sp (j := 0) rfl 0 rfl h1 (bz_le rfl)
            have hu4 : u4.length < 620 := by
              have h5 := hR4.1.1.le
              have h6 : u4.length + (S.length + 1) ≤ kS t4 := hR4.1.2.2.2.2
              have h7 : kE t4 ≤ n := h5.2.1
              have h8 : kS t4 ≤ kE t4 := h5.1
              omega
            refine g_ifN_ne (q := 78) (t := 80) dX9_term_75 rfl (by decide) (by omega) (fun _ => ?_) (fun c => absurd c (by omega))
            refine g_aload_n (q := 81) dX9_term_80 rfl rfl ?_
            refine g_iload_n (q := 82) dX9_term_81 rfl rfl ?_
            refine gb_callV (q := 85) (j := 0) (i := 0) dX9_term_82 rfl kv_X9_84 (c_memit (I := I4) (A := A4) (a := a) (m := u4.length) (c := m_cd (-(nI (kK t1)))) ha (by omega) ((hf4 20 (Or.inr (by decide))).trans ((hf3 20 (Or.inr (by decide))).trans ((hf1 20 (Or.inr (by decide))).trans h20))) hx4.1 (hB.1.at (j := 0) rfl)) rfl (by omega) hB rfl rfl rfl rfl (bz_le rfl) (Nat.le_refl _) (Nat.le_refl _) (fun r g1 hQ => ?_)
            obtain ⟨rfl, h1⟩ := hQ
            have hB : bz_B L g _ [(o, b_Mod E o I4 (q_em A4 a u4.length (m_cd (-(nI (kK t1))))))] := hB.sp (j := 0) rfl 0 rfl h1 (bz_le rfl)
            refine g_pop (q := 86) dX9_term_85 rfl rfl ?_
            refine g_goto (q := 9) dX9_term_86 (by decide) ?_
            refine g_lvs (lv1 := [(0, .ref o)]) ⟨rfl, trivial⟩ ?_
            exact ih I4 (q_em A4 a u4.length (m_cd (-(nI (kK t1))))) (u4 ++ [-(nI (kK t1))]) t4 (kK t1 :: S) u4 _ (by have := hR4.2.1; omega) hB hq4 ((hf1.q hf3).tr hf4) h164 ((hE1.tr hE4).tr (q_fE.em hu4)) hx4.em hR4.1 (by have := hR4.2.1; have := (t_nx_is ht1).2; omega) (by rw [x_fl_c (by omega)]; exact x_fl_id htop) (fun z hz => hfin z (x_fin_l hs (by rw [hsx]; exact hR4.2.2 z hz)))
          · have hB := hB.sp (j := 0) rfl 0 rfl h1 (bz_le rfl)
            refine g_ifN_ne (q := 78) (t := 80) dX9_term_75 rfl (by decide) (by omega) (fun c => absurd c (by omega)) (fun _ => ?_)
            refine g_iconst (q := 79) (v := (nI 0)) dX9_term_78 rfl (by decide) ?_
            exact g_zret dX9_term_79 rfl rfl (Or.inr ⟨rfl, I4, A4, e4, hB, hc4, hp4, (hf1.q hf3).fI.tr hf4, hE1.tr hE4, hfin _ (x_fin_l hs (by rw [hsx]; exact hR4))⟩)
        refine g_aload_n (q := 37) dX9_term_36 rfl rfl ?_
        refine gb_getf (q := 40) (j := 0) (i := 0) dX9_term_37 rfl fl_X9_108 hB rfl rfl rfl rfl ?_
        refine g_eqi (v := nI (kK t1)) (hq1.2.2.2.2 (by omega)) ?_
        refine g_bipush (q := 42) (v := (nI 42)) dX9_term_40 rfl (by decide) ?_
        refine g_icmpN_ne (q := 45) (t := 50) dX9_term_42 rfl (by decide) (by omega) (by omega) (fun c_42 => ?_) (fun c_42 => ?_)
        · refine g_aload_n (q := 51) dX9_term_50 rfl rfl ?_
          refine gb_getf (q := 54) (j := 0) (i := 0) dX9_term_51 rfl fl_X9_108 hB rfl rfl rfl rfl ?_
          refine g_eqi (v := nI (kK t1)) (hq1.2.2.2.2 (by omega)) ?_
          refine g_bipush (q := 56) (v := (nI 47)) dX9_term_54 rfl (by decide) ?_
          refine g_icmpN_ne (q := 59) (t := 64) dX9_term_56 rfl (by decide) (by omega) (by omega) (fun c_56 => ?_) (fun c_56 => ?_)
          · refine g_bipush (q := 66) (v := (-5)) dX9_term_64 rfl (by decide) ?_
            refine g_eqi (v := m_cd (-(nI (kK t1)))) (by rw [show kK t1 = 37 by omega]; decide) ?_
            exact KP
          · refine g_bipush (q := 61) (v := (-4)) dX9_term_59 rfl (by decide) ?_
            refine g_eqi (v := m_cd (-(nI (kK t1)))) (by rw [c_56]; decide) ?_
            refine g_goto (q := 66) dX9_term_61 (by decide) ?_
            exact KP
        · refine g_bipush (q := 47) (v := (-3)) dX9_term_45 rfl (by decide) ?_
          refine g_eqi (v := m_cd (-(nI (kK t1)))) (by rw [c_42]; decide) ?_
          refine g_goto (q := 66) dX9_term_47 (by decide) ?_
          exact KP
      refine g_aload_n (q := 10) dX9_term_9 rfl rfl ?_
      refine g_bipush (q := 12) (v := (nI 42)) dX9_term_10 rfl (by decide) ?_
      refine gb_callV (q := 15) (j := 0) (i := 0) dX9_term_12 rfl kv_X9_142 (c_misSignHere (I := I1) (A := A1) (t := t1) (c := 42) hb (by decide) ht1 hq1 (hB.1.at (j := 0) rfl)) rfl (by omega) hB rfl rfl rfl rfl (bz_le rfl) (Nat.le_refl _) (Nat.le_refl _) (fun r g1 hQ => ?_)
      obtain ⟨rfl, hg⟩ := hQ
      have hg := hg.symm
      subst hg
      refine g_if_ne (q := 18) (t := 36) dX9_term_15 rfl (by decide) (fun c_15 => ?_) (fun c_15 => ?_)
      · exact KJ (by first | exact Or.inl (of_decide_eq_true (tB_1 c_15)) | exact Or.inr (Or.inl (of_decide_eq_true (tB_1 c_24))) | exact Or.inr (Or.inr (of_decide_eq_true (tB_1 c_33))))
      · refine g_aload_n (q := 19) dX9_term_18 rfl rfl ?_
        refine g_bipush (q := 21) (v := (nI 47)) dX9_term_19 rfl (by decide) ?_
        refine gb_callV (q := 24) (j := 0) (i := 0) dX9_term_21 rfl kv_X9_142 (c_misSignHere (I := I1) (A := A1) (t := t1) (c := 47) hb (by decide) ht1 hq1 (hB.1.at (j := 0) rfl)) rfl (by omega) hB rfl rfl rfl rfl (bz_le rfl) (Nat.le_refl _) (Nat.le_refl _) (fun r g1 hQ => ?_)
        obtain ⟨rfl, hg⟩ := hQ
        have hg := hg.symm
        subst hg
        refine g_if_ne (q := 27) (t := 36) dX9_term_24 rfl (by decide) (fun c_24 => ?_) (fun c_24 => ?_)
        · exact KJ (by first | exact Or.inl (of_decide_eq_true (tB_1 c_15)) | exact Or.inr (Or.inl (of_decide_eq_true (tB_1 c_24))) | exact Or.inr (Or.inr (of_decide_eq_true (tB_1 c_33))))
        · refine g_aload_n (q := 28) dX9_term_27 rfl rfl ?_
          refine g_bipush (q := 30) (v := (nI 37)) dX9_term_28 rfl (by decide) ?_
          refine gb_callV (q := 33) (j := 0) (i := 0) dX9_term_30 rfl kv_X9_142 (c_misSignHere (I := I1) (A := A1) (t := t1) (c := 37) hb (by decide) ht1 hq1 (hB.1.at (j := 0) rfl)) rfl (by omega) hB rfl rfl rfl rfl (bz_le rfl) (Nat.le_refl _) (Nat.le_refl _) (fun r g1 hQ => ?_)
          obtain ⟨rfl, hg⟩ := hQ
          have hg := hg.symm
          subst hg
          refine g_if_eq (q := 36) (t := 89) dX9_term_33 rfl (by decide) (fun c_33 => ?_) (fun c_33 => ?_)
          · refine g_iconst (q := 90) (v := (nI 1)) dX9_term_89 rfl (by decide) ?_
            exact g_zret dX9_term_90 rfl rfl (Or.inl ⟨rfl, I1, A1, u1, t1, hB, hq1, hf1, h161, hE1, hx1, S2, u2, hi1, hS1, hfl, fun h => by have := t_rk_2.mp h; have := of_decide_eq_false (tB_0 c_15); have := of_decide_eq_false (tB_0 c_24); have := of_decide_eq_false (tB_0 c_33); omega, hfin⟩)
          · exact KJ (by first | exact Or.inl (of_decide_eq_true (tB_1 c_15)) | exact Or.inr (Or.inl (of_decide_eq_true (tB_1 c_24))) | exact Or.inr (Or.inr (of_decide_eq_true (tB_1 c_33))))
  refine g_aload_n (q := 1) dX9_term_0 rfl rfl ?_
  refine gb_callV (q := 4) (j := 0) (i := 0) dX9_term_1 rfl kv_X9_192 (hF hk5 ⟨hb, hn, h11, h9, ha, h20, h16, h21, hq, hx, hi⟩ (hB.1.at (j := 0) rfl)) rfl (by omega) hB rfl rfl rfl rfl (bz_le rfl) (Nat.le_refl _) (Nat.le_refl _) (fun r g1 hQ => ?_)
  rcases hQ with ⟨rfl, I4, A4, u4, t4, h1, hq4, hf4, h164, hE4, hx4, hR4⟩ | ⟨rfl, I4, A4, e4, h1, hc4, hp4, hf4, hE4, hR4⟩
  · have hB := hB.sp (j := 0) rfl 0 rfl h1 (bz_le rfl)
    refine g_ifN_ne (q := 7) (t := 9) dX9_term_4 rfl (by decide) (by omega) (fun _ => ?_) (fun c => absurd c (by omega))
    exact K _ I4 A4 u4 t4 S u4 _ (Nat.le_refl _) hB hq4 hf4 h164 hE4 hx4 hR4.1 hR4.2.1 (x_fl_id htop) hR4.2.2
  · have hB := hB.sp (j := 0) rfl 0 rfl h1 (bz_le rfl)
    refine g_ifN_ne (q := 7) (t := 9) dX9_term_4 rfl (by decide) (by omega) (fun c => absurd c (by omega)) (fun _ => ?_)
    refine g_iconst (q := 8) (v := (nI 0)) dX9_term_7 rfl (by decide) ?_
    exact g_zret dX9_term_8 rfl rfl (Or.inr ⟨rfl, I4, A4, e4, hB, hc4, hp4, hf4, hE4, hR4⟩)
set_option maxRecDepth 20000 in
set_option maxHeartbeats 2000000 in
theorem q_sum {l : Launch} {E : bz_E} {k : Nat} (hT : q_CT l E k) : q_CS l E k := by
  intro L g o I A b n a S u t hk5 htop hpre hH
  obtain ⟨hb, hn, h11, h9, ha, h20, h16, h21, hq, hx, hi⟩ := hpre
  have ht : t_is b n t := hi.1
  have hle := ht.le
  have h256 := ht.k256 hb
  refine bz_K.of (by decide) (bz_le rfl) (fun sz => ?_)
  show bz_G _ _ _ _ _ _ _ _ _ _ _ _ 0 [(0, .ref o)] []
  have hB := bz_B.rf (bz_W.one hH)
  have K : ∀ (m : Nat) (I1 : Nat → Int32) (A1 : Nat → Nat → Int32) (u1 : List Int32) (t1 : Tok) (S2 : List Nat) (u2 : List Int32) (g1 : Nat → va_E), n - kS t1 ≤ m → bz_B L g g1 [(o, b_Mod E o I1 A1)] → q_tk I1 t1 → q_fS I I1 → I1 16 = nI 0 → q_fE a A A1 → q_ex A1 a u1 → x_inv b n (false, S2, u2, t1) → kS t ≤ kS t1 → x_fl 1 S2 u2 = (S, u1) → t_rk (kK t1) ≠ 2 → (∀ z, x_fin b n (false, S2, u2, t1) z → x_fin b n (true, S, u, t) z) → bz_G l E mX9_sum (bz_R (7 + 3 * k) 0 0) L sz (bz_Fm E L sz (q_post E L g o I A a b n S u t (q_RS b n S u t))) sz 0 0 L g1 9 [(0, .ref o)] [] := by
    intro m
    induction m with
    | zero =>
      intro I1 A1 u1 t1 S2 u2 g2 hm hB hq1 hf1 h161 hE1 hx1 hi1 hS1 hfl hr21 hfin
      have ht1 : t_is b n t1 := hi1.1
      have h2561 := ht1.k256 hb
      have hk0 : kK t1 = 0 := t_is_end ht1 (by omega)
      have KJ : kK t1 = 43 ∨ kK t1 = 45 → bz_G l E mX9_sum (bz_R (7 + 3 * k) 0 0) L sz (bz_Fm E L sz (q_post E L g o I A a b n S u t (q_RS b n S u t))) sz 0 0 L g2 27 [(0, .ref o)] [] := fun h => by exfalso; omega
      refine g_aload_n (q := 10) dX9_sum_9 rfl rfl ?_
      refine g_bipush (q := 12) (v := (nI 43)) dX9_sum_10 rfl (by decide) ?_
      refine gb_callV (q := 15) (j := 0) (i := 0) dX9_sum_12 rfl kv_X9_142 (c_misSignHere (I := I1) (A := A1) (t := t1) (c := 43) hb (by decide) ht1 hq1 (hB.1.at (j := 0) rfl)) rfl (by omega) hB rfl rfl rfl rfl (bz_le rfl) (Nat.le_refl _) (Nat.le_refl _) (fun r g1 hQ => ?_)
      obtain ⟨rfl, hg⟩ := hQ
      have hg := hg.symm
      subst hg
      refine g_if_ne (q := 18) (t := 27) dX9_sum_15 rfl (by decide) (fun c_15 => ?_) (fun c_15 => ?_)
      · exact KJ (by first | exact Or.inl (of_decide_eq_true (tB_1 c_15)) | exact Or.inr (of_decide_eq_true (tB_1 c_24)))
      · refine g_aload_n (q := 19) dX9_sum_18 rfl rfl ?_
        refine g_bipush (q := 21) (v := (nI 45)) dX9_sum_19 rfl (by decide) ?_
        refine gb_callV (q := 24) (j := 0) (i := 0) dX9_sum_21 rfl kv_X9_142 (c_misSignHere (I := I1) (A := A1) (t := t1) (c := 45) hb (by decide) ht1 hq1 (hB.1.at (j := 0) rfl)) rfl (by omega) hB rfl rfl rfl rfl (bz_le rfl) (Nat.le_refl _) (Nat.le_refl _) (fun r g1 hQ => ?_)
        obtain ⟨rfl, hg⟩ := hQ
        have hg := hg.symm
        subst hg
        refine g_if_eq (q := 27) (t := 65) dX9_sum_24 rfl (by decide) (fun c_24 => ?_) (fun c_24 => ?_)
        · refine g_iconst (q := 66) (v := (nI 1)) dX9_sum_65 rfl (by decide) ?_
          exact g_zret dX9_sum_66 rfl rfl (Or.inl ⟨rfl, I1, A1, u1, t1, hB, hq1, hf1, h161, hE1, hx1, S2, u2, hi1, hS1, hfl, q_rk0 hr21 (of_decide_eq_false (tB_0 c_15)) (of_decide_eq_false (tB_0 c_24)), hfin⟩)
        · exact KJ (by first | exact Or.inl (of_decide_eq_true (tB_1 c_15)) | exact Or.inr (of_decide_eq_true (tB_1 c_24)))
    | succ m ih =>
      intro I1 A1 u1 t1 S2 u2 g2 hm hB hq1 hf1 h161 hE1 hx1 hi1 hS1 hfl hr21 hfin
      have ht1 : t_is b n t1 := hi1.1
      have hle1 := ht1.le
      have h2561 := ht1.k256 hb
      have KJ : kK t1 = 43 ∨ kK t1 = 45 → bz_G l E mX9_sum (bz_R (7 + 3 * k) 0 0) L sz (bz_Fm E L sz (q_post E L g o I A a b n S u t (q_RS b n S u t))) sz 0 0 L g2 27 [(0, .ref o)] [] := by
        intro hop
        have hrk2 : t_rk (kK t1) = 1 := t_rk_1.mpr hop
        have hrk : 0 < t_rk (kK t1) := by omega
        have hs := x_step_op (b := b) (n := n) (S := S2) (u := u2) (t := t1) hrk
        have hsx : ((true, kK t1 :: (x_fl (t_rk (kK t1)) S2 u2).1, (x_fl (t_rk (kK t1)) S2 u2).2, t_nx b n t1) : Xs) = (true, kK t1 :: S, u1, t_nx b n t1) := by rw [hrk2, hfl]
        have hi3 : x_inv b n (true, kK t1 :: S, u1, t_nx b n t1) := by rw [← hsx]; exact hi1.step hs
        have hlt := t_nx_lt ht1 (show kK t1 ≠ 0 by omega)
        have KP : bz_G l E mX9_sum (bz_R (7 + 3 * k) 0 0) L sz (bz_Fm E L sz (q_post E L g o I A a b n S u t (q_RS b n S u t))) sz 0 0 L g2 42 [(0, .ref o)] [.int (m_cd (-(nI (kK t1))))] := by
          refine g_istore_n (q := 43) rfl dX9_sum_42 rfl (by decide) rfl ?_
          refine g_aload_n (q := 44) dX9_sum_43 rfl rfl ?_
          refine gb_callV (q := 47) (j := 0) (i := 0) dX9_sum_44 rfl kv_X9_139 (c_madvance (I := I1) (A := A1) (p := kE t1) hb hn ((hf1 11 (Or.inl (by decide))).trans h11) (fun i hi9 => by rw [hE1.1 9 (by decide) (by decide)]; exact h9 i hi9) (by omega) hq1.2.1 (hB.1.at (j := 0) rfl)) rfl (by omega) hB rfl rfl rfl rfl (bz_le rfl) (Nat.le_refl _) (Nat.le_refl _) (fun r g1 hQ => ?_)
          obtain ⟨rfl, I3, t3, h1, rfl, hq3, hf3⟩ := hQ
          have hB := hB.sp (j := 0) rfl 0 rfl h1 (bz_le rfl)
          have hq3 : q_tk I3 (t_nx b n t1) := hq3
          refine g_aload_n (q := 48) dX9_sum_47 rfl rfl ?_
          refine gb_callV (q := 51) (j := 0) (i := 0) dX9_sum_48 rfl kv_X9_189 (hT (I := I3) (A := A1) (a := a) (b := b) (n := n) (S := kK t1 :: S) (u := u1) (t := t_nx b n t1) (by rw [x_open_op hrk]; exact hk5) (show t_rk (kK t1) < 2 by omega) ⟨hb, hn, (hf3 11 (Or.inl (by decide))).trans ((hf1 11 (Or.inl (by decide))).trans h11), fun i hi9 => by rw [hE1.1 9 (by decide) (by decide)]; exact h9 i hi9, ha, (hf3 20 (Or.inr (by decide))).trans ((hf1 20 (Or.inr (by decide))).trans h20), (hf3 16 (Or.inr (by decide))).trans h161, by rw [x_open_op hrk]; exact (hf3 21 (Or.inr (by decide))).trans ((hf1 21 (Or.inr (by decide))).trans h21), hq3, hx1, hi3⟩ (hB.1.at (j := 0) rfl)) rfl (by omega) hB rfl rfl rfl rfl (bz_le rfl) (Nat.le_refl _) (Nat.le_refl _) (fun r g1 hQ => ?_)
          rcases hQ with ⟨rfl, I4, A4, u4, t4, h1, hq4, hf4, h164, hE4, hx4, hR4⟩ | ⟨rfl, I4, A4, e4, h1, hc4, hp4, hf4, hE4, hR4⟩
          · have hB := hB.sp (j := 0) rfl 0 rfl h1 (bz_le rfl)
            obtain ⟨S5, u5, hi5, hS5, hfl5, hr5, hfin5⟩ := hR4
            have hu4 : u4.length < 620 := by
              have h5 := hi5.1.le
              have h9 := x_fl_ok (r := 2) (by decide) S5 u5 hi5.2.1 hi5.2.2.2.1
              rw [hfl5] at h9
              have h6 : u5.length + S5.length ≤ kS t4 := hi5.2.2.2.2
              have h10 := h9.2.2.2.2
              have h7 : kE t4 ≤ n := h5.2.1
              have h8 : kS t4 ≤ kE t4 := h5.1
              have h11 : u4.length + (kK t1 :: S).length = u5.length + S5.length := h10
              omega
            refine g_ifN_ne (q := 54) (t := 56) dX9_sum_51 rfl (by decide) (by omega) (fun _ => ?_) (fun c => absurd c (by omega))
            refine g_aload_n (q := 57) dX9_sum_56 rfl rfl ?_
            refine g_iload_n (q := 58) dX9_sum_57 rfl rfl ?_
            refine gb_callV (q := 61) (j := 0) (i := 0) dX9_sum_58 rfl kv_X9_84 (c_memit (I := I4) (A := A4) (a := a) (m := u4.length) (c := m_cd (-(nI (kK t1)))) ha (by omega) ((hf4 20 (Or.inr (by decide))).trans ((hf3 20 (Or.inr (by decide))).trans ((hf1 20 (Or.inr (by decide))).trans h20))) hx4.1 (hB.1.at (j := 0) rfl)) rfl (by omega) hB rfl rfl rfl rfl (bz_le rfl) (Nat.le_refl _) (Nat.le_refl _) (fun r g1 hQ => ?_)
            obtain ⟨rfl, h1⟩ := hQ
            have hB : bz_B L g _ [(o, b_Mod E o I4 (q_em A4 a u4.length (m_cd (-(nI (kK t1))))))] := hB.sp (j := 0) rfl 0 rfl h1 (bz_le rfl)
            refine g_pop (q := 62) dX9_sum_61 rfl rfl ?_
            refine g_goto (q := 9) dX9_sum_62 (by decide) ?_
            refine g_lvs (lv1 := [(0, .ref o)]) ⟨rfl, trivial⟩ ?_
            exact ih I4 (q_em A4 a u4.length (m_cd (-(nI (kK t1))))) (u4 ++ [-(nI (kK t1))]) t4 S5 u5 _ (by omega) hB hq4 ((hf1.q hf3).tr hf4) h164 ((hE1.tr hE4).tr (q_fE.em hu4)) hx4.em hi5 (by have := (t_nx_is ht1).2; omega) (by rw [x_fl_12, hfl5]; dsimp only; rw [x_fl_c (by omega)]; exact x_fl_id htop) hr5 (fun z hz => hfin z (x_fin_l hs (by rw [hsx]; exact hfin5 z hz)))
          · have hB := hB.sp (j := 0) rfl 0 rfl h1 (bz_le rfl)
            refine g_ifN_ne (q := 54) (t := 56) dX9_sum_51 rfl (by decide) (by omega) (fun c => absurd c (by omega)) (fun _ => ?_)
            refine g_iconst (q := 55) (v := (nI 0)) dX9_sum_54 rfl (by decide) ?_
            exact g_zret dX9_sum_55 rfl rfl (Or.inr ⟨rfl, I4, A4, e4, hB, hc4, hp4, (hf1.q hf3).fI.tr hf4, hE1.tr hE4, hfin _ (x_fin_l hs (by rw [hsx]; exact hR4))⟩)
        refine g_aload_n (q := 28) dX9_sum_27 rfl rfl ?_
        refine gb_getf (q := 31) (j := 0) (i := 0) dX9_sum_28 rfl fl_X9_108 hB rfl rfl rfl rfl ?_
        refine g_eqi (v := nI (kK t1)) (hq1.2.2.2.2 (by omega)) ?_
        refine g_bipush (q := 33) (v := (nI 43)) dX9_sum_31 rfl (by decide) ?_
        refine g_icmpN_ne (q := 36) (t := 40) dX9_sum_33 rfl (by decide) (by omega) (by omega) (fun c_33 => ?_) (fun c_33 => ?_)
        · refine g_bipush (q := 42) (v := (-2)) dX9_sum_40 rfl (by decide) ?_
          refine g_eqi (v := m_cd (-(nI (kK t1)))) (by rw [show kK t1 = 45 by omega]; decide) ?_
          exact KP
        · refine g_iconst (q := 37) (v := (-1)) dX9_sum_36 rfl (by decide) ?_
          refine g_eqi (v := m_cd (-(nI (kK t1)))) (by rw [c_33]; decide) ?_
          refine g_goto (q := 42) dX9_sum_37 (by decide) ?_
          exact KP
      refine g_aload_n (q := 10) dX9_sum_9 rfl rfl ?_
      refine g_bipush (q := 12) (v := (nI 43)) dX9_sum_10 rfl (by decide) ?_
      refine gb_callV (q := 15) (j := 0) (i := 0) dX9_sum_12 rfl kv_X9_142 (c_misSignHere (I := I1) (A := A1) (t := t1) (c := 43) hb (by decide) ht1 hq1 (hB.1.at (j := 0) rfl)) rfl (by omega) hB rfl rfl rfl rfl (bz_le rfl) (Nat.le_refl _) (Nat.le_refl _) (fun r g1 hQ => ?_)
      obtain ⟨rfl, hg⟩ := hQ
      have hg := hg.symm
      subst hg
      refine g_if_ne (q := 18) (t := 27) dX9_sum_15 rfl (by decide) (fun c_15 => ?_) (fun c_15 => ?_)
      · exact KJ (by first | exact Or.inl (of_decide_eq_true (tB_1 c_15)) | exact Or.inr (of_decide_eq_true (tB_1 c_24)))
      · refine g_aload_n (q := 19) dX9_sum_18 rfl rfl ?_
        refine g_bipush (q := 21) (v := (nI 45)) dX9_sum_19 rfl (by decide) ?_
        refine gb_callV (q := 24) (j := 0) (i := 0) dX9_sum_21 rfl kv_X9_142 (c_misSignHere (I := I1) (A := A1) (t := t1) (c := 45) hb (by decide) ht1 hq1 (hB.1.at (j := 0) rfl)) rfl (by omega) hB rfl rfl rfl rfl (bz_le rfl) (Nat.le_refl _) (Nat.le_refl _) (fun r g1 hQ => ?_)
        obtain ⟨rfl, hg⟩ := hQ
        have hg := hg.symm
        subst hg
        refine g_if_eq (q := 27) (t := 65) dX9_sum_24 rfl (by decide) (fun c_24 => ?_) (fun c_24 => ?_)
        · refine g_iconst (q := 66) (v := (nI 1)) dX9_sum_65 rfl (by decide) ?_
          exact g_zret dX9_sum_66 rfl rfl (Or.inl ⟨rfl, I1, A1, u1, t1, hB, hq1, hf1, h161, hE1, hx1, S2, u2, hi1, hS1, hfl, q_rk0 hr21 (of_decide_eq_false (tB_0 c_15)) (of_decide_eq_false (tB_0 c_24)), hfin⟩)
        · exact KJ (by first | exact Or.inl (of_decide_eq_true (tB_1 c_15)) | exact Or.inr (of_decide_eq_true (tB_1 c_24)))
  refine g_aload_n (q := 1) dX9_sum_0 rfl rfl ?_
  refine gb_callV (q := 4) (j := 0) (i := 0) dX9_sum_1 rfl kv_X9_189 (hT hk5 (by omega) ⟨hb, hn, h11, h9, ha, h20, h16, h21, hq, hx, hi⟩ (hB.1.at (j := 0) rfl)) rfl (by omega) hB rfl rfl rfl rfl (bz_le rfl) (Nat.le_refl _) (Nat.le_refl _) (fun r g1 hQ => ?_)
  rcases hQ with ⟨rfl, I4, A4, u4, t4, h1, hq4, hf4, h164, hE4, hx4, hR4⟩ | ⟨rfl, I4, A4, e4, h1, hc4, hp4, hf4, hE4, hR4⟩
  · have hB := hB.sp (j := 0) rfl 0 rfl h1 (bz_le rfl)
    refine g_ifN_ne (q := 7) (t := 9) dX9_sum_4 rfl (by decide) (by omega) (fun _ => ?_) (fun c => absurd c (by omega))
    obtain ⟨S5, u5, hi5, hS5, hfl5, hr5, hfin5⟩ := hR4
    exact K _ I4 A4 u4 t4 S5 u5 _ (Nat.le_refl _) hB hq4 hf4 h164 hE4 hx4 hi5 hS5 (by rw [x_fl_12, hfl5]; exact x_fl_id htop) hr5 hfin5
  · have hB := hB.sp (j := 0) rfl 0 rfl h1 (bz_le rfl)
    refine g_ifN_ne (q := 7) (t := 9) dX9_sum_4 rfl (by decide) (by omega) (fun c => absurd c (by omega)) (fun _ => ?_)
    refine g_iconst (q := 8) (v := (nI 0)) dX9_sum_7 rfl (by decide) ?_
    exact g_zret dX9_sum_8 rfl rfl (Or.inr ⟨rfl, I4, A4, e4, hB, hc4, hp4, hf4, hE4, hR4⟩)
