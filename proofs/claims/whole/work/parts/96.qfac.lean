/-! the reference: factor; all depths -/
theorem m_cd_ne {i : Int32} (h : e_isnm i ∨ ∃ m, m < 10000 ∧ i = nI m) : m_cd i ≠ 0 := by
  rcases h with h | ⟨m, hm, rfl⟩
  · rcases h with rfl | rfl | rfl | rfl <;> decide
  · rw [m_cd_n hm]
    intro e
    have := (nI_eq (b := 0) (by omega) (by decide)).mp e
    omega
theorem q_fIf {I I1 : Nat → Int32} {x : Int32} (h : ∀ i, q_o i → I1 i = I i) : q_fI I (va_up I1 21 x) := fun i hi => (va_ne (by omega)).trans (h i (by unfold q_o; omega))
theorem q_fIs {I I1 I4 : Nat → Int32} {x : Int32} (h : ∀ i, q_o i → I1 i = I i) (h4 : q_fS (va_up I1 21 x) I4) : q_fI I I4 := (q_fIf h).tr h4.fI
theorem q_up21 {I I1 I4 I6 : Nat → Int32} {w : Nat} {x : Int32} (h21 : I 21 = nI w) (h1 : ∀ i, q_o i → I1 i = I i) (h4 : q_fS (va_up I1 21 x) I4) (h6 : ∀ i, q_o i → I6 i = I4 i) : q_fS I (va_up I6 21 (nI w)) := fun i hi => by
  by_cases e : i = 21
  · subst e
    rw [h21]
    rfl
  · rw [va_ne e, h6 i (by unfold q_o; omega), h4 i hi, va_ne e, h1 i (by unfold q_o; omega)]
set_option maxRecDepth 20000 in
set_option maxHeartbeats 2000000 in
theorem q_fac {l : Launch} {E : bz_E} {k : Nat} (hS : ∀ k1, k = k1 + 1 → q_CS l E k1) : q_CF l E k := by
  intro L g o I A b n a S u t hk5 hpre hH
  obtain ⟨hb, hn, h11, h9, ha, h20, h16, h21, hq, hx, hi⟩ := hpre
  have ht : t_is b n t := hi.1
  have hle := ht.le
  have h256 := ht.k256 hb
  refine bz_K.of (by decide) (bz_le rfl) (fun sz => ?_)
  show bz_G _ _ _ _ _ _ _ _ _ _ _ _ 0 [(0, .ref o)] []
  have hB := bz_B.rf (bz_W.one hH)
  have hlu : u.length + S.length ≤ kS t := hi.2.2.2.2
  have hbo : x_open S ≤ 5 := hi.2.2.1
  have hqb := q_kk_b (kK t)
  have K76 : kK t ≠ 40 → bz_G l E mX9_factor (bz_R (5 + 3 * k) 0 0) L sz (bz_Fm E L sz (q_post E L g o I A a b n S u t (q_RF b n S u t))) sz 0 0 L g 76 [(0, .ref o)] [] := by
    intro h40
    have KI : ∀ i : Int32, x_fac b t = some i → bz_G l E mX9_factor (bz_R (5 + 3 * k) 0 0) L sz (bz_Fm E L sz (q_post E L g o I A a b n S u t (q_RF b n S u t))) sz 0 0 L g 147 [(0, .ref o)] [.int (m_cd i)] := by
      intro i hfac
      have hs := x_step_f (n := n) (S := S) (u := u) h40 hfac
      refine g_istore_n (q := 148) rfl dX9_factor_147 rfl (by decide) rfl ?_
      refine g_iload_n (q := 149) dX9_factor_148 rfl rfl ?_
      refine g_if_ne (q := 152) (t := 158) dX9_factor_149 rfl (by decide) (fun _ => ?_) (fun c => absurd c (m_cd_ne (x_fac_ok ht hfac)))
      refine g_aload_n (q := 159) dX9_factor_158 rfl rfl ?_
      refine gb_callV (q := 162) (j := 0) (i := 0) dX9_factor_159 rfl kv_X9_139 (c_madvance (I := I) (A := A) (p := kE t) hb hn h11 h9 (by omega) hq.2.1 (hB.1.at (j := 0) rfl)) rfl (by omega) hB rfl rfl rfl rfl (bz_le rfl) (Nat.le_refl _) (Nat.le_refl _) (fun r g1 hQ => ?_)
      obtain ⟨rfl, I3, t3, h1, rfl, hq3, hf3⟩ := hQ
      have hB := hB.sp (j := 0) rfl 0 rfl h1 (bz_le rfl)
      have hq3 : q_tk I3 (t_nx b n t) := hq3
      refine g_aload_n (q := 163) dX9_factor_162 rfl rfl ?_
      refine g_iload_n (q := 164) dX9_factor_163 rfl rfl ?_
      refine gb_callV (q := 167) (j := 0) (i := 0) dX9_factor_164 rfl kv_X9_84 (c_memit (I := I3) (A := A) (a := a) (m := u.length) (c := m_cd i) ha (by omega) ((hf3 20 (Or.inr (by decide))).trans h20) hx.1 (hB.1.at (j := 0) rfl)) rfl (by omega) hB rfl rfl rfl rfl (bz_le rfl) (Nat.le_refl _) (Nat.le_refl _) (fun r g1 hQ => ?_)
      obtain ⟨rfl, h1⟩ := hQ
      have hB : bz_B L g _ [(o, b_Mod E o I3 (q_em A a u.length (m_cd i)))] := hB.sp (j := 0) rfl 0 rfl h1 (bz_le rfl)
      exact g_zret dX9_factor_167 rfl rfl (Or.inl ⟨rfl, I3, q_em A a u.length (m_cd i), u ++ [i], t_nx b n t, hB, hq3, q_fS.rf.q hf3, (hf3 16 (Or.inr (by decide))).trans h16, q_fE.em (by omega), hx.em, hi.step hs, by have := (t_nx_is ht).2; omega, fun z hz => x_fin_l hs hz⟩)
    have KN : x_fac b t = none → bz_G l E mX9_factor (bz_R (5 + 3 * k) 0 0) L sz (bz_Fm E L sz (q_post E L g o I A a b n S u t (q_RF b n S u t))) sz 0 0 L g 147 [(0, .ref o)] [.int (nI 0)] := by
      intro hfac
      refine g_istore_n (q := 148) rfl dX9_factor_147 rfl (by decide) rfl ?_
      refine g_iload_n (q := 149) dX9_factor_148 rfl rfl ?_
      refine g_ifN_ne (q := 152) (t := 158) dX9_factor_149 rfl (by decide) (by omega) (fun c => absurd c (by omega)) (fun _ => ?_)
      refine g_aload_n (q := 153) dX9_factor_152 rfl rfl ?_
      refine g_iconst (q := 154) (v := (nI 1)) dX9_factor_153 rfl (by decide) ?_
      refine gb_callV (q := 157) (j := 0) (i := 0) dX9_factor_154 rfl kv_X9_133 (c_mfails (I := I) (A := A) (c := 1) h16 hq.1 (hB.1.at (j := 0) rfl)) rfl (by omega) hB rfl rfl rfl rfl (bz_le rfl) (Nat.le_refl _) (Nat.le_refl _) (fun r g1 hQ => ?_)
      obtain ⟨rfl, h1⟩ := hQ
      have hB := hB.sp (j := 0) rfl 0 rfl h1 (bz_le rfl)
      exact g_zret dX9_factor_157 rfl rfl (Or.inr ⟨rfl, va_up (va_up I 16 (nI 1)) 17 (nI (kS t)), A, (1, kS t), hB, rfl, rfl, q_fI.er, q_fE.rf, x_fin_r (x_step_n h40 hfac)⟩)
    refine g_aload_n (q := 77) dX9_factor_76 rfl rfl ?_
    refine gb_getf (q := 80) (j := 0) (i := 0) dX9_factor_77 rfl fl_X9_111 hB rfl rfl rfl rfl ?_
    refine g_eqi (v := nI (q_kk (kK t))) (hq.2.2.1) ?_
    refine g_iconst (q := 81) (v := (nI 2)) dX9_factor_80 rfl (by decide) ?_
    refine g_icmpN_ne (q := 84) (t := 94) dX9_factor_81 rfl (by decide) (by omega) (by omega) (fun c_81 => ?_) (fun c_81 => ?_)
    · refine g_aload_n (q := 95) dX9_factor_94 rfl rfl ?_
      refine g_ldcS (q := 97) (tx := "kind") (i := 7) dX9_factor_95 rfl (by decide +kernel) ?_
      refine gb_callV (q := 100) (j := 0) (i := 0) dX9_factor_97 rfl kv_X9_160 (c_misWord (i := 7) hb hn h11 h9 (by decide) ht hq (hB.1.at (j := 0) rfl)) rfl (by omega) hB rfl rfl rfl rfl (bz_le rfl) (Nat.le_refl _) (Nat.le_refl _) (fun r g1 hQ => ?_)
      obtain ⟨rfl, hg⟩ := hQ
      have hg := hg.symm
      subst hg
      refine g_if_eq (q := 103) (t := 107) dX9_factor_100 rfl (by decide) (fun c_100 => ?_) (fun c_100 => ?_)
      · refine g_aload_n (q := 108) dX9_factor_107 rfl rfl ?_
        refine g_ldcS (q := 110) (tx := "address") (i := 8) dX9_factor_108 rfl (by decide +kernel) ?_
        refine gb_callV (q := 113) (j := 0) (i := 0) dX9_factor_110 rfl kv_X9_160 (c_misWord (i := 8) hb hn h11 h9 (by decide) ht hq (hB.1.at (j := 0) rfl)) rfl (by omega) hB rfl rfl rfl rfl (bz_le rfl) (Nat.le_refl _) (Nat.le_refl _) (fun r g1 hQ => ?_)
        obtain ⟨rfl, hg⟩ := hQ
        have hg := hg.symm
        subst hg
        refine g_if_eq (q := 116) (t := 120) dX9_factor_113 rfl (by decide) (fun c_113 => ?_) (fun c_113 => ?_)
        · refine g_aload_n (q := 121) dX9_factor_120 rfl rfl ?_
          refine g_ldcS (q := 123) (tx := "words") (i := 9) dX9_factor_121 rfl (by decide +kernel) ?_
          refine gb_callV (q := 126) (j := 0) (i := 0) dX9_factor_123 rfl kv_X9_160 (c_misWord (i := 9) hb hn h11 h9 (by decide) ht hq (hB.1.at (j := 0) rfl)) rfl (by omega) hB rfl rfl rfl rfl (bz_le rfl) (Nat.le_refl _) (Nat.le_refl _) (fun r g1 hQ => ?_)
          obtain ⟨rfl, hg⟩ := hQ
          have hg := hg.symm
          subst hg
          refine g_if_eq (q := 129) (t := 133) dX9_factor_126 rfl (by decide) (fun c_126 => ?_) (fun c_126 => ?_)
          · refine g_aload_n (q := 134) dX9_factor_133 rfl rfl ?_
            refine g_ldcS (q := 136) (tx := "tick") (i := 10) dX9_factor_134 rfl (by decide +kernel) ?_
            refine gb_callV (q := 139) (j := 0) (i := 0) dX9_factor_136 rfl kv_X9_160 (c_misWord (i := 10) hb hn h11 h9 (by decide) ht hq (hB.1.at (j := 0) rfl)) rfl (by omega) hB rfl rfl rfl rfl (bz_le rfl) (Nat.le_refl _) (Nat.le_refl _) (fun r g1 hQ => ?_)
            obtain ⟨rfl, hg⟩ := hQ
            have hg := hg.symm
            subst hg
            refine g_if_eq (q := 142) (t := 146) dX9_factor_139 rfl (by decide) (fun c_139 => ?_) (fun c_139 => ?_)
            · refine g_iconst (q := 147) (v := (nI 0)) dX9_factor_146 rfl (by decide) ?_
              exact KN (by unfold x_fac; rw [if_neg (fun h => c_81 ((q_kk_3 _ h256).mpr h)), if_neg (by rw [show t_wd b t w_kind = false from tB_0 c_100]; decide), if_neg (by rw [show t_wd b t w_address = false from tB_0 c_113]; decide), if_neg (by rw [show t_wd b t w_words = false from tB_0 c_126]; decide), if_neg (by rw [show t_wd b t w_tick = false from tB_0 c_139]; decide)])
            · refine g_iconst (q := 143) (v := (nI 4)) dX9_factor_142 rfl (by decide) ?_
              refine g_eqi (v := m_cd (-4)) (by decide) ?_
              refine g_goto (q := 147) dX9_factor_143 (by decide) ?_
              exact KI (-4) (by unfold x_fac; rw [if_neg (fun h => c_81 ((q_kk_3 _ h256).mpr h)), if_neg (by rw [show t_wd b t w_kind = false from tB_0 c_100]; decide), if_neg (by rw [show t_wd b t w_address = false from tB_0 c_113]; decide), if_neg (by rw [show t_wd b t w_words = false from tB_0 c_126]; decide), if_pos (show t_wd b t w_tick = true from tB_1 c_139)])
          · refine g_iconst (q := 130) (v := (nI 3)) dX9_factor_129 rfl (by decide) ?_
            refine g_eqi (v := m_cd (-3)) (by decide) ?_
            refine g_goto (q := 147) dX9_factor_130 (by decide) ?_
            exact KI (-3) (by unfold x_fac; rw [if_neg (fun h => c_81 ((q_kk_3 _ h256).mpr h)), if_neg (by rw [show t_wd b t w_kind = false from tB_0 c_100]; decide), if_neg (by rw [show t_wd b t w_address = false from tB_0 c_113]; decide), if_pos (show t_wd b t w_words = true from tB_1 c_126)])
        · refine g_iconst (q := 117) (v := (nI 2)) dX9_factor_116 rfl (by decide) ?_
          refine g_eqi (v := m_cd (-2)) (by decide) ?_
          refine g_goto (q := 147) dX9_factor_117 (by decide) ?_
          exact KI (-2) (by unfold x_fac; rw [if_neg (fun h => c_81 ((q_kk_3 _ h256).mpr h)), if_neg (by rw [show t_wd b t w_kind = false from tB_0 c_100]; decide), if_pos (show t_wd b t w_address = true from tB_1 c_113)])
      · refine g_iconst (q := 104) (v := (nI 1)) dX9_factor_103 rfl (by decide) ?_
        refine g_eqi (v := m_cd (-1)) (by decide) ?_
        refine g_goto (q := 147) dX9_factor_104 (by decide) ?_
        exact KI (-1) (by unfold x_fac; rw [if_neg (fun h => c_81 ((q_kk_3 _ h256).mpr h)), if_pos (show t_wd b t w_kind = true from tB_1 c_100)])
    · refine g_bipush (q := 86) (v := (nI 100)) dX9_factor_84 rfl (by decide) ?_
      refine g_aload_n (q := 87) dX9_factor_86 rfl rfl ?_
      refine gb_getf (q := 90) (j := 0) (i := 0) dX9_factor_87 rfl fl_X9_108 hB rfl rfl rfl rfl ?_
      refine g_eqi (v := nI (kN t)) (hq.2.2.2.1 ((q_kk_3 _ h256).mp c_81)) ?_
      refine g_iaddN (q := 91) dX9_factor_90 rfl ?_
      refine g_eqi (v := m_cd (nI (kN t))) (by rw [m_cd_n (ht.num ((q_kk_3 _ h256).mp c_81))]) ?_
      refine g_goto (q := 147) dX9_factor_91 (by decide) ?_
      exact KI (nI (kN t)) (by unfold x_fac; rw [if_pos ((q_kk_3 _ h256).mp c_81)])
  have K9 : kK t = 40 → bz_G l E mX9_factor (bz_R (5 + 3 * k) 0 0) L sz (bz_Fm E L sz (q_post E L g o I A a b n S u t (q_RF b n S u t))) sz 0 0 L g 9 [(0, .ref o)] [] := by
    intro h40
    rcases Nat.lt_or_ge (x_open S) 5 with h5 | h5
    · obtain ⟨k1, hk1⟩ : ∃ k1, k = k1 + 1 := ⟨k - 1, by omega⟩
      have hs := x_step_40 (b := b) (n := n) (S := S) (u := u) h40 h5
      refine g_aload_n (q := 10) dX9_factor_9 rfl rfl ?_
      refine g_iconst (q := 11) (v := (nI 4)) dX9_factor_10 rfl (by decide) ?_
      refine g_aload_n (q := 12) dX9_factor_11 rfl rfl ?_
      refine gb_getf (q := 15) (j := 0) (i := 0) dX9_factor_12 rfl fl_X9_182 hB rfl rfl rfl rfl ?_
      refine g_eqi (v := nI (x_open S)) (h21) ?_
      refine g_iconst (q := 16) (v := (nI 5)) dX9_factor_15 rfl (by decide) ?_
      refine g_icmpN_ge (q := 19) (t := 23) dX9_factor_16 rfl (by decide) (by omega) (by omega) (fun c => absurd c (by omega)) (fun _ => ?_)
      refine g_iconst (q := 20) (v := (nI 1)) dX9_factor_19 rfl (by decide) ?_
      refine g_goto (q := 24) dX9_factor_20 (by decide) ?_
      refine gb_callV (q := 27) (j := 0) (i := 0) dX9_factor_24 rfl kv_X9_151 (c_mstarts0 (I := I) (A := A) (t := t) (c := 4) hb hn h11 h9 ht hq (hB.1.at (j := 0) rfl)) rfl (by omega) hB rfl rfl rfl rfl (bz_le rfl) (Nat.le_refl _) (Nat.le_refl _) (fun r g1 hQ => ?_)
      obtain ⟨rfl, I1, h1, hq1, hf1⟩ := hQ
      have hB := hB.sp (j := 0) rfl 0 rfl h1 (bz_le rfl)
      refine g_ifN_ne (q := 30) (t := 32) dX9_factor_27 rfl (by decide) (by omega) (fun _ => ?_) (fun c => absurd c (by omega))
      refine g_aload_n (q := 33) dX9_factor_32 rfl rfl ?_
      refine g_dup (q := 34) dX9_factor_33 rfl rfl ?_
      refine gb_getf (q := 37) (j := 0) (i := 0) dX9_factor_34 rfl fl_X9_182 hB rfl rfl rfl rfl ?_
      refine g_eqi (v := nI (x_open S)) ((hf1 21 (Or.inr (by decide))).trans h21) ?_
      refine g_iconst (q := 38) (v := (nI 1)) dX9_factor_37 rfl (by decide) ?_
      refine g_iaddN (q := 39) dX9_factor_38 rfl ?_
      refine gb_putf (q := 42) (j := 0) (i := 0) dX9_factor_39 rfl fp_X9_182 hB rfl rfl rfl (bz_le rfl) rfl rfl (fun g hB => ?_)
      refine g_aload_n (q := 43) dX9_factor_42 rfl rfl ?_
      refine gb_callV (q := 46) (j := 0) (i := 0) dX9_factor_43 rfl kv_X9_185 (hS k1 hk1 (I := (va_up I1 21 (nI (x_open S + 1)))) (A := A) (a := a) (b := b) (n := n) (S := 40 :: S) (u := u) (t := t_nx b n t) (by rw [x_open_c, if_pos rfl]; omega) (show t_rk 40 < 1 by decide) ⟨hb, hn, (hf1 11 (Or.inl (by decide))).trans h11, h9, ha, (hf1 20 (Or.inr (by decide))).trans h20, (hf1 16 (Or.inr (by decide))).trans h16, by rw [x_open_c, if_pos rfl]; rfl, hq1, hx, hi.step hs⟩ (hB.1.at (j := 0) rfl)) rfl (by omega) hB rfl rfl rfl rfl (bz_le rfl) (Nat.le_refl _) (Nat.le_refl _) (fun r g1 hQ => ?_)
      rcases hQ with ⟨rfl, I4, A4, u4, t4, h1, hq4, hf4, h164, hE4, hx4, hR4⟩ | ⟨rfl, I4, A4, e4, h1, hc4, hp4, hf4, hE4, hR4⟩
      · have hB := hB.sp (j := 0) rfl 0 rfl h1 (bz_le rfl)
        obtain ⟨S5, u5, hi5, hS5, hfl5, hr5, hfin5⟩ := hR4
        have ht4 : t_is b n t4 := hi5.1
        have ho5 : x_open S5 = x_open S + 1 := by
          have := x_fl_open (r := 1) (Nat.le_refl 1) S5 u5
          rw [hfl5, x_open_c, if_pos rfl] at this
          exact this.symm
        by_cases h41 : kK t4 = 41
        · have hcl := x_step_cl (b := b) (n := n) (S := S5) (u := u5) (t := t4) h41 (by omega)
          have hcx : ((false, (x_fl 1 S5 u5).1.tail, (x_fl 1 S5 u5).2, t_nx b n t4) : Xs) = (false, S, u4, t_nx b n t4) := by rw [hfl5]; rfl
          have hi7 := hi5.step hcl
          refine g_ifN_eq (q := 49) (t := 62) dX9_factor_46 rfl (by decide) (by omega) (fun c => absurd c (by omega)) (fun _ => ?_)
          refine g_aload_n (q := 50) dX9_factor_49 rfl rfl ?_
          refine g_bipush (q := 52) (v := (nI 41)) dX9_factor_50 rfl (by decide) ?_
          refine gb_callV (q := 55) (j := 0) (i := 0) dX9_factor_52 rfl kv_X9_195 (c_mcloses0 (I := I4) (A := A4) (t := t4) (c := 41) hb hn ((hf4 11 (Or.inl (by decide))).trans ((hf1 11 (Or.inl (by decide))).trans h11)) (fun i hi9 => by rw [hE4.1 9 (by decide) (by decide)]; exact h9 i hi9) (by decide) ht4 hq4 h41 (hB.1.at (j := 0) rfl)) rfl (by omega) hB rfl rfl rfl rfl (bz_le rfl) (Nat.le_refl _) (Nat.le_refl _) (fun r g1 hQ => ?_)
          obtain ⟨rfl, I6, h1, hq6, hf6⟩ := hQ
          have hB := hB.sp (j := 0) rfl 0 rfl h1 (bz_le rfl)
          refine g_ifN_eq (q := 58) (t := 62) dX9_factor_55 rfl (by decide) (by omega) (fun c => absurd c (by omega)) (fun _ => ?_)
          refine g_iconst (q := 59) (v := (nI 1)) dX9_factor_58 rfl (by decide) ?_
          refine g_goto (q := 63) dX9_factor_59 (by decide) ?_
          refine g_istore_n (q := 64) rfl dX9_factor_63 rfl (by decide) rfl ?_
          refine g_aload_n (q := 65) dX9_factor_64 rfl rfl ?_
          refine g_dup (q := 66) dX9_factor_65 rfl rfl ?_
          refine gb_getf (q := 69) (j := 0) (i := 0) dX9_factor_66 rfl fl_X9_182 hB rfl rfl rfl rfl ?_
          refine g_eqi (v := nI (x_open S + 1)) ((hf6 21 (Or.inr (by decide))).trans (hf4 21 (Or.inr (by decide)))) ?_
          refine g_iconst (q := 70) (v := (nI 1)) dX9_factor_69 rfl (by decide) ?_
          refine g_isubN (q := 71) dX9_factor_70 rfl (by omega) ?_
          refine gb_putf (q := 74) (j := 0) (i := 0) dX9_factor_71 rfl fp_X9_182 hB rfl rfl rfl (bz_le rfl) rfl rfl (fun g hB => ?_)
          refine g_iload_n (q := 75) dX9_factor_74 rfl rfl ?_
          exact g_zret dX9_factor_75 rfl rfl (Or.inl ⟨rfl, va_up I6 21 (nI (x_open S)), A4, u4, t_nx b n t4, hB, hq6, fun i hi9 => q_up21 h21 hf1 hf4 hf6 i hi9, (hf6 16 (Or.inr (by decide))).trans h164, hE4, hx4, by rw [hcx] at hi7; exact hi7, by have := (t_nx_is ht).2; have := (t_nx_is ht4).2; have := ht4.le; omega, fun z hz => x_fin_l hs (hfin5 z (x_fin_l hcl (by rw [hcx]; exact hz)))⟩)
        · have hce : x_step b n (false, S5, u5, t4) = .inr (.inr (1, kS t4)) := by rw [x_step_e hr5 (fun q => absurd q h41), if_pos (by omega)]
          refine g_ifN_eq (q := 49) (t := 62) dX9_factor_46 rfl (by decide) (by omega) (fun c => absurd c (by omega)) (fun _ => ?_)
          refine g_aload_n (q := 50) dX9_factor_49 rfl rfl ?_
          refine g_bipush (q := 52) (v := (nI 41)) dX9_factor_50 rfl (by decide) ?_
          refine gb_callV (q := 55) (j := 0) (i := 0) dX9_factor_52 rfl kv_X9_195 (c_mcloses1 (I := I4) (A := A4) (t := t4) (c := 41) hb (by decide) ht4 hq4 h164 h41 (hB.1.at (j := 0) rfl)) rfl (by omega) hB rfl rfl rfl rfl (bz_le rfl) (Nat.le_refl _) (Nat.le_refl _) (fun r g1 hQ => ?_)
          obtain ⟨rfl, h1⟩ := hQ
          have hB := hB.sp (j := 0) rfl 0 rfl h1 (bz_le rfl)
          refine g_ifN_eq (q := 58) (t := 62) dX9_factor_55 rfl (by decide) (by omega) (fun _ => ?_) (fun c => absurd c (by omega))
          refine g_iconst (q := 63) (v := (nI 0)) dX9_factor_62 rfl (by decide) ?_
          refine g_istore_n (q := 64) rfl dX9_factor_63 rfl (by decide) rfl ?_
          refine g_aload_n (q := 65) dX9_factor_64 rfl rfl ?_
          refine g_dup (q := 66) dX9_factor_65 rfl rfl ?_
          refine gb_getf (q := 69) (j := 0) (i := 0) dX9_factor_66 rfl fl_X9_182 hB rfl rfl rfl rfl ?_
          refine g_iconst (q := 70) (v := (nI 1)) dX9_factor_69 rfl (by decide) ?_
          refine g_isub (q := 71) dX9_factor_70 rfl ?_
          refine gb_putf (q := 74) (j := 0) (i := 0) dX9_factor_71 rfl fp_X9_182 hB rfl rfl rfl (bz_le rfl) rfl rfl (fun g hB => ?_)
          refine g_iload_n (q := 75) dX9_factor_74 rfl rfl ?_
          exact g_zret dX9_factor_75 rfl rfl (Or.inr ⟨rfl, va_up (va_up (va_up I4 16 (nI 1)) 17 (nI (kS t4))) 21 (I4 21 - nI 1), A4, (1, kS t4), hB, rfl, rfl, (q_fIs hf1 hf4).tr (q_fI.er.tr q_fI.op), hE4, x_fin_l hs (hfin5 _ (x_fin_r hce))⟩)
      · have hB := hB.sp (j := 0) rfl 0 rfl h1 (bz_le rfl)
        refine g_ifN_eq (q := 49) (t := 62) dX9_factor_46 rfl (by decide) (by omega) (fun _ => ?_) (fun c => absurd c (by omega))
        refine g_iconst (q := 63) (v := (nI 0)) dX9_factor_62 rfl (by decide) ?_
        refine g_istore_n (q := 64) rfl dX9_factor_63 rfl (by decide) rfl ?_
        refine g_aload_n (q := 65) dX9_factor_64 rfl rfl ?_
        refine g_dup (q := 66) dX9_factor_65 rfl rfl ?_
        refine gb_getf (q := 69) (j := 0) (i := 0) dX9_factor_66 rfl fl_X9_182 hB rfl rfl rfl rfl ?_
        refine g_iconst (q := 70) (v := (nI 1)) dX9_factor_69 rfl (by decide) ?_
        refine g_isub (q := 71) dX9_factor_70 rfl ?_
        refine gb_putf (q := 74) (j := 0) (i := 0) dX9_factor_71 rfl fp_X9_182 hB rfl rfl rfl (bz_le rfl) rfl rfl (fun g hB => ?_)
        refine g_iload_n (q := 75) dX9_factor_74 rfl rfl ?_
        exact g_zret dX9_factor_75 rfl rfl (Or.inr ⟨rfl, va_up I4 21 (I4 21 - nI 1), A4, e4, hB, hc4, hp4, ((q_fIf hf1).tr hf4).tr q_fI.op, hE4, x_fin_l hs hR4⟩)
    ·
      refine g_aload_n (q := 10) dX9_factor_9 rfl rfl ?_
      refine g_iconst (q := 11) (v := (nI 4)) dX9_factor_10 rfl (by decide) ?_
      refine g_aload_n (q := 12) dX9_factor_11 rfl rfl ?_
      refine gb_getf (q := 15) (j := 0) (i := 0) dX9_factor_12 rfl fl_X9_182 hB rfl rfl rfl rfl ?_
      refine g_eqi (v := nI (x_open S)) (h21) ?_
      refine g_iconst (q := 16) (v := (nI 5)) dX9_factor_15 rfl (by decide) ?_
      refine g_icmpN_ge (q := 19) (t := 23) dX9_factor_16 rfl (by decide) (by omega) (by omega) (fun _ => ?_) (fun c => absurd c (by omega))
      refine g_iconst (q := 24) (v := (nI 0)) dX9_factor_23 rfl (by decide) ?_
      refine gb_callV (q := 27) (j := 0) (i := 0) dX9_factor_24 rfl kv_X9_151 (c_mstarts1 (I := I) (A := A) (t := t) (c := 4) ht hq h16 (hB.1.at (j := 0) rfl)) rfl (by omega) hB rfl rfl rfl rfl (bz_le rfl) (Nat.le_refl _) (Nat.le_refl _) (fun r g1 hQ => ?_)
      obtain ⟨rfl, h1⟩ := hQ
      have hB := hB.sp (j := 0) rfl 0 rfl h1 (bz_le rfl)
      refine g_ifN_ne (q := 30) (t := 32) dX9_factor_27 rfl (by decide) (by omega) (fun c => absurd c (by omega)) (fun _ => ?_)
      refine g_iconst (q := 31) (v := (nI 0)) dX9_factor_30 rfl (by decide) ?_
      exact g_zret dX9_factor_31 rfl rfl (Or.inr ⟨rfl, va_up (va_up I 16 (nI 4)) 17 (nI (kS t)), A, (4, kS t), hB, rfl, rfl, q_fI.er, q_fE.rf, x_fin_r (x_step_45 h40 h5)⟩)
  refine g_aload_n (q := 1) dX9_factor_0 rfl rfl ?_
  refine g_bipush (q := 3) (v := (nI 40)) dX9_factor_1 rfl (by decide) ?_
  refine gb_callV (q := 6) (j := 0) (i := 0) dX9_factor_3 rfl kv_X9_142 (c_misSignHere (I := I) (A := A) (t := t) (c := 40) hb (by decide) ht hq (hB.1.at (j := 0) rfl)) rfl (by omega) hB rfl rfl rfl rfl (bz_le rfl) (Nat.le_refl _) (Nat.le_refl _) (fun r g1 hQ => ?_)
  obtain ⟨rfl, hg⟩ := hQ
  have hg := hg.symm
  subst hg
  refine g_if_eq (q := 9) (t := 76) dX9_factor_6 rfl (by decide) (fun c_6 => ?_) (fun c_6 => ?_)
  · exact K76 (of_decide_eq_false (tB_0 c_6))
  · exact K9 (of_decide_eq_true (tB_1 c_6))
theorem q_allF {l : Launch} {E : bz_E} : ∀ k, q_CF l E k
  | 0 => q_fac (fun k1 h => by omega)
  | k + 1 => q_fac (fun k1 h => by
    have e : k1 = k := by omega
    subst e
    exact @q_sum l E k1 (@q_term l E k1 (q_allF k1)))
theorem q_allS {l : Launch} {E : bz_E} (k : Nat) : q_CS l E k := @q_sum l E k (@q_term l E k (q_allF k))
