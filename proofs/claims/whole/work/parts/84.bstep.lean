/-! class BridgeText: a number, a step, a word -/
theorem t_num_s {b : Nat → Nat} {tp q : Nat} (h : tp ≤ q) (hc : b q < 256) (hd : t_di (b q) = true) : nI (t_num b tp (q - tp) * 10) + s8 (b q) - nI 48 = nI (t_num b tp (q + 1 - tp)) := by
  obtain ⟨h1, h2⟩ := s8_di' _ hc hd
  rw [show q + 1 - tp = (q - tp) + 1 by omega, t_num, show tp + (q - tp) = q by omega, h1, nI_add, bz_subI (by omega)]
  congr 1
  omega
theorem t_at_0 {b : Nat → Nat} {n p : Nat} (h : n ≤ p) : t_at b n p = (0, p, p, 0) := by unfold t_at; rw [if_pos h]
theorem t_at_1 {b : Nat → Nat} {n p : Nat} (h : p < n) (h1 : t_le (b p) = true) : t_at b n p = (if t_end (fun i => t_le (b i)) n p - p ≤ 8 then 2 else 1, p, t_end (fun i => t_le (b i)) n p, 0) := by unfold t_at; rw [if_neg (by omega), if_pos h1]
theorem t_at_2 {b : Nat → Nat} {n p : Nat} (h : p < n) (h1 : t_le (b p) = false) (h2 : t_di (b p) = true) : t_at b n p = (if t_end (fun i => t_di (b i)) n p - p ≤ 4 then 3 else 1, p, t_end (fun i => t_di (b i)) n p, t_num b p (t_end (fun i => t_di (b i)) n p - p)) := by unfold t_at; rw [if_neg (by omega), if_neg (by rw [h1]; decide), if_pos h2]
theorem t_at_3 {b : Nat → Nat} {n p : Nat} (h : p < n) (h1 : t_le (b p) = false) (h2 : t_di (b p) = false) (h3 : t_sg (b p) = true) : t_at b n p = (b p, p, p + 1, 0) := by unfold t_at; rw [if_neg (by omega), if_neg (by rw [h1]; decide), if_neg (by rw [h2]; decide), if_pos h3]
theorem t_at_4 {b : Nat → Nat} {n p : Nat} (h : p < n) (h1 : t_le (b p) = false) (h2 : t_di (b p) = false) (h3 : t_sg (b p) = false) : t_at b n p = (1, p, p + 1, 0) := by unfold t_at; rw [if_neg (by omega), if_neg (by rw [h1]; decide), if_neg (by rw [h2]; decide), if_neg (by rw [h3]; decide)]
theorem t_sg_3 : ∀ c, c < 256 → t_sg c = true → c ≠ 3 := by decide +kernel
set_option maxRecDepth 20000 in
set_option maxHeartbeats 1000000 in
theorem c_stepOverNumber {l : Launch} {E : bz_E} {L : List Nat} {g : Nat → va_E} {o x n : Nat} {b : Nat → Nat} {f0 pd : Nat → Int32} {tk tp : Nat} {nm er ep hs ht pc op : Int32} (hb : ∀ i, b i < 256) (hn : n ≤ 600) (hd : o + 3 ≤ x ∨ x + 1 ≤ o) (hX : bz_H L g x (b_In E b)) (htp : tp ≤ n) (hH : bz_H L g o (b_T E o x n tp tk tp nm er ep hs ht f0 pd pc op)) : bz_K l E mX0_stepOverNumber 1 [.ref o] L g (fun r g1 => r = none ∧ ∃ k : Nat, bz_B L g g1 [(o, (b_T E o x n (t_end (fun i => t_di (b i)) n tp) k tp (nI (t_num b tp ((t_end (fun i => t_di (b i)) n tp) - tp))) er ep hs ht f0 pd pc op))] ∧ k = if (t_end (fun i => t_di (b i)) n tp) - tp ≤ 4 then 3 else 1) := by
  refine bz_K.of (by decide) (bz_le rfl) (fun sz => ?_)
  show bz_G _ _ _ _ _ _ _ _ _ _ _ _ 0 [(0, .ref o)] []
  have hB := bz_B.rf (bz_W.two hH hX hd)
  have hle := t_end_le (f := (fun i => t_di (b i))) (n := n) (p := tp) htp
  have KE : ∀ g1 : Nat → va_E, bz_B L g g1 [(o, (b_T E o x n (t_end (fun i => t_di (b i)) n tp) tk tp (nI (t_num b tp ((t_end (fun i => t_di (b i)) n tp) - tp))) er ep hs ht f0 pd pc op)), (x, b_In E b)] → bz_G l E mX0_stepOverNumber (bz_R 1 0 0) L sz (bz_Fm E L sz (fun r g1 => r = none ∧ ∃ k : Nat, bz_B L g g1 [(o, (b_T E o x n (t_end (fun i => t_di (b i)) n tp) k tp (nI (t_num b tp ((t_end (fun i => t_di (b i)) n tp) - tp))) er ep hs ht f0 pd pc op))] ∧ k = if (t_end (fun i => t_di (b i)) n tp) - tp ≤ 4 then 3 else 1)) sz 0 0 L g1 66 [(0, .ref o)] [] := by
    intro g2 hB
    refine g_aload_n (q := 67) dX0_stepOverNumber_66 rfl rfl ?_
    refine g_aload_n (q := 68) dX0_stepOverNumber_67 rfl rfl ?_
    refine gb_getf (q := 71) (j := 0) (i := 0) dX0_stepOverNumber_68 rfl fl_X0_23 hB rfl rfl rfl rfl ?_
    refine g_aload_n (q := 72) dX0_stepOverNumber_71 rfl rfl ?_
    refine gb_getf (q := 75) (j := 0) (i := 0) dX0_stepOverNumber_72 rfl fl_X0_57 hB rfl rfl rfl rfl ?_
    refine g_isubN (q := 76) dX0_stepOverNumber_75 rfl (by omega) ?_
    refine g_iconst (q := 77) (v := (nI 4)) dX0_stepOverNumber_76 rfl (by decide) ?_
    refine g_icmpN_gt (q := 80) (t := 84) dX0_stepOverNumber_77 rfl (by decide) (by omega) (by omega) (fun c_77 => ?_) (fun c_77 => ?_)
    · refine g_iconst (q := 85) (v := (nI 1)) dX0_stepOverNumber_84 rfl (by decide) ?_
      refine gb_putf (q := 88) (j := 0) (i := 0) dX0_stepOverNumber_85 rfl fp_X0_47 hB rfl rfl rfl (bz_le rfl) rfl rfl (fun g hB => ?_)
      exact g_vret dX0_stepOverNumber_88 rfl (⟨rfl, _, hB.fst hX, (if_neg (by omega)).symm⟩)
    · refine g_iconst (q := 81) (v := (nI 3)) dX0_stepOverNumber_80 rfl (by decide) ?_
      refine g_goto (q := 85) dX0_stepOverNumber_81 (by decide) ?_
      refine gb_putf (q := 88) (j := 0) (i := 0) dX0_stepOverNumber_85 rfl fp_X0_47 hB rfl rfl rfl (bz_le rfl) rfl rfl (fun g hB => ?_)
      exact g_vret dX0_stepOverNumber_88 rfl (⟨rfl, _, hB.fst hX, (if_pos (by omega)).symm⟩)
  have K : ∀ (m q : Nat) (g1 : Nat → va_E), n - q = m → tp ≤ q → q ≤ n → t_end (fun i => t_di (b i)) n q = (t_end (fun i => t_di (b i)) n tp) → bz_B L g g1 [(o, (b_T E o x n q tk tp (nI (t_num b tp (q - tp))) er ep hs ht f0 pd pc op)), (x, b_In E b)] → bz_G l E mX0_stepOverNumber (bz_R 1 0 0) L sz (bz_Fm E L sz (fun r g1 => r = none ∧ ∃ k : Nat, bz_B L g g1 [(o, (b_T E o x n (t_end (fun i => t_di (b i)) n tp) k tp (nI (t_num b tp ((t_end (fun i => t_di (b i)) n tp) - tp))) er ep hs ht f0 pd pc op))] ∧ k = if (t_end (fun i => t_di (b i)) n tp) - tp ≤ 4 then 3 else 1)) sz 0 0 L g1 5 [(0, .ref o)] [] := by
    intro m
    induction m with
    | zero =>
      intro q g2 hm h1 h2 he hB
      have hq : q = (t_end (fun i => t_di (b i)) n tp) := by rw [← he]; exact (t_end_out (f := (fun i => t_di (b i))) (by omega)).symm
      refine g_aload_n (q := 6) dX0_stepOverNumber_5 rfl rfl ?_
      refine gb_getf (q := 9) (j := 0) (i := 0) dX0_stepOverNumber_6 rfl fl_X0_23 hB rfl rfl rfl rfl ?_
      refine g_aload_n (q := 10) dX0_stepOverNumber_9 rfl rfl ?_
      refine gb_getf (q := 13) (j := 0) (i := 0) dX0_stepOverNumber_10 rfl fl_X0_19 hB rfl rfl rfl rfl ?_
      refine g_icmpN_ge (q := 16) (t := 66) dX0_stepOverNumber_13 rfl (by decide) (by omega) (by omega) (fun _ => ?_) (fun c => absurd c (by omega))
      subst hq
      exact KE _ hB
    | succ m ih =>
    intro q g2 hm h1 h2 he hB
    refine g_aload_n (q := 6) dX0_stepOverNumber_5 rfl rfl ?_
    refine gb_getf (q := 9) (j := 0) (i := 0) dX0_stepOverNumber_6 rfl fl_X0_23 hB rfl rfl rfl rfl ?_
    refine g_aload_n (q := 10) dX0_stepOverNumber_9 rfl rfl ?_
    refine gb_getf (q := 13) (j := 0) (i := 0) dX0_stepOverNumber_10 rfl fl_X0_19 hB rfl rfl rfl rfl ?_
    refine g_icmpN_ge (q := 16) (t := 66) dX0_stepOverNumber_13 rfl (by decide) (by omega) (by omega) (fun c_13 => ?_) (fun c_13 => ?_)
    · have hq : q = (t_end (fun i => t_di (b i)) n tp) := by rw [← he]; exact (t_end_out (f := (fun i => t_di (b i))) (by omega)).symm
      subst hq
      exact KE _ hB
    · refine g_aload_n (q := 17) dX0_stepOverNumber_16 rfl rfl ?_
      refine g_aload_n (q := 18) dX0_stepOverNumber_17 rfl rfl ?_
      refine gb_getf (q := 21) (j := 0) (i := 0) dX0_stepOverNumber_18 rfl fl_X0_23 hB rfl rfl rfl rfl ?_
      refine gb_callV (q := 24) (j := 0) (i := 0) dX0_stepOverNumber_21 rfl kv_X0_172 (c_byteAt (p := q) hb hn hd (hB.1.at (j := 1) rfl) (by omega) (hB.1.at (j := 0) rfl)) rfl (by decide) hB rfl rfl rfl rfl (bz_le rfl) (by decide) (by decide) (fun r g1 hQ => ?_)
      obtain ⟨rfl, hg⟩ := hQ
      have hg := hg.symm
      subst hg
      refine g_callS (q := 27) dX0_stepOverNumber_24 rfl ks_X0_189 rfl (c_isDigit (v := s8 (b q))) (by decide) rfl (bz_le rfl) (by decide) (by decide) (fun r g1 hQ => ?_)
      obtain ⟨rfl, hg⟩ := hQ
      have hg := hg.symm
      subst hg
      refine g_eqi (v := tB (t_di (b q))) (k_di_c _ (hb q)) ?_
      refine g_if_eq (q := 30) (t := 66) dX0_stepOverNumber_27 rfl (by decide) (fun c_27 => ?_) (fun c_27 => ?_)
      · have hq : q = (t_end (fun i => t_di (b i)) n tp) := by rw [← he]; exact (t_end_stop (f := (fun i => t_di (b i))) (tB_0 c_27)).symm
        subst hq
        exact KE _ hB
      · refine g_aload_n (q := 31) dX0_stepOverNumber_30 rfl rfl ?_
        refine g_aload_n (q := 32) dX0_stepOverNumber_31 rfl rfl ?_
        refine gb_getf (q := 35) (j := 0) (i := 0) dX0_stepOverNumber_32 rfl fl_X0_118 hB rfl rfl rfl rfl ?_
        refine g_bipush (q := 37) (v := (nI 10)) dX0_stepOverNumber_35 rfl (by decide) ?_
        refine g_imulN (q := 38) dX0_stepOverNumber_37 rfl ?_
        refine g_aload_n (q := 39) dX0_stepOverNumber_38 rfl rfl ?_
        refine g_aload_n (q := 40) dX0_stepOverNumber_39 rfl rfl ?_
        refine gb_getf (q := 43) (j := 0) (i := 0) dX0_stepOverNumber_40 rfl fl_X0_23 hB rfl rfl rfl rfl ?_
        refine gb_callV (q := 46) (j := 0) (i := 0) dX0_stepOverNumber_43 rfl kv_X0_172 (c_byteAt (p := q) hb hn hd (hB.1.at (j := 1) rfl) (by omega) (hB.1.at (j := 0) rfl)) rfl (by decide) hB rfl rfl rfl rfl (bz_le rfl) (by decide) (by decide) (fun r g1 hQ => ?_)
        obtain ⟨rfl, hg⟩ := hQ
        have hg := hg.symm
        subst hg
        refine g_iadd (q := 47) dX0_stepOverNumber_46 rfl ?_
        refine g_bipush (q := 49) (v := (nI 48)) dX0_stepOverNumber_47 rfl (by decide) ?_
        refine g_isub (q := 50) dX0_stepOverNumber_49 rfl ?_
        refine g_eqi (v := nI (t_num b tp (q + 1 - tp))) (t_num_s h1 (hb q) (tB_1 c_27)) ?_
        refine gb_putf (q := 53) (j := 0) (i := 0) dX0_stepOverNumber_50 rfl fp_X0_118 hB rfl rfl rfl (bz_le rfl) rfl rfl (fun g hB => ?_)
        refine g_aload_n (q := 54) dX0_stepOverNumber_53 rfl rfl ?_
        refine g_dup (q := 55) dX0_stepOverNumber_54 rfl rfl ?_
        refine gb_getf (q := 58) (j := 0) (i := 0) dX0_stepOverNumber_55 rfl fl_X0_23 hB rfl rfl rfl rfl ?_
        refine g_iconst (q := 59) (v := (nI 1)) dX0_stepOverNumber_58 rfl (by decide) ?_
        refine g_iaddN (q := 60) dX0_stepOverNumber_59 rfl ?_
        refine gb_putf (q := 63) (j := 0) (i := 0) dX0_stepOverNumber_60 rfl fp_X0_23 hB rfl rfl rfl (bz_le rfl) rfl rfl (fun g hB => ?_)
        refine g_goto (q := 5) dX0_stepOverNumber_63 (by decide) ?_
        refine ih (q + 1) _ (by omega) (by omega) (by omega) (by rw [← he]; exact (t_end_go (f := (fun i => t_di (b i))) (by omega) (tB_1 c_27)).symm) hB
  refine g_aload_n (q := 1) dX0_stepOverNumber_0 rfl rfl ?_
  refine g_iconst (q := 2) (v := (nI 0)) dX0_stepOverNumber_1 rfl (by decide) ?_
  refine gb_putf (q := 5) (j := 0) (i := 0) dX0_stepOverNumber_2 rfl fp_X0_118 hB rfl rfl rfl (bz_le rfl) rfl rfl (fun g hB => ?_)
  exact K _ tp _ rfl (Nat.le_refl _) htp rfl (by rw [show tp - tp = 0 by omega]; exact hB)
set_option maxRecDepth 20000 in
set_option maxHeartbeats 1000000 in
theorem c_step {l : Launch} {E : bz_E} {L : List Nat} {g : Nat → va_E} {o x n : Nat} {b : Nat → Nat} {f0 pd : Nat → Int32} {p tk tp : Nat} {nm er ep hs ht pc op : Int32} (hb : ∀ i, b i < 256) (hn : n ≤ 600) (hd : o + 3 ≤ x ∨ x + 1 ≤ o) (hX : bz_H L g x (b_In E b)) (hp : p ≤ n) (hH : bz_H L g o (b_T E o x n p tk tp nm er ep hs ht f0 pd pc op)) : bz_K l E mX0_step 2 [.ref o] L g (fun r g1 => r = none ∧ ∃ (t : Tok) (nm1 : Int32), bz_B L g g1 [(o, (b_T E o x n (kE t) (kK t) (kS t) nm1 er ep hs ht f0 pd pc op))] ∧ t = t_tok b n p ∧ (kK t = 3 → nm1 = nI (kN t))) := by
  refine bz_K.of (by decide) (bz_le rfl) (fun sz => ?_)
  show bz_G _ _ _ _ _ _ _ _ _ _ _ _ 0 [(0, .ref o)] []
  have hB := bz_B.rf (bz_W.two hH hX hd)
  have KE0 : ∀ (p1 : Nat) (g1 : Nat → va_E), p1 ≤ n → t_tok b n p = t_at b n p1 → bz_B L g g1 [(o, (b_T E o x n p1 tk tp nm er ep hs ht f0 pd pc op)), (x, b_In E b)] → bz_G l E mX0_step (bz_R 2 0 0) L sz (bz_Fm E L sz (fun r g1 => r = none ∧ ∃ (t : Tok) (nm1 : Int32), bz_B L g g1 [(o, (b_T E o x n (kE t) (kK t) (kS t) nm1 er ep hs ht f0 pd pc op))] ∧ t = t_tok b n p ∧ (kK t = 3 → nm1 = nI (kN t)))) sz 0 0 L g1 38 [(0, .ref o)] [] := by
    intro p1 g2 hp1 hT hB
    rcases Nat.lt_or_ge p1 n with hlt | hlt
    ·
      refine g_aload_n (q := 39) dX0_step_38 rfl rfl ?_
      refine g_aload_n (q := 40) dX0_step_39 rfl rfl ?_
      refine gb_getf (q := 43) (j := 0) (i := 0) dX0_step_40 rfl fl_X0_23 hB rfl rfl rfl rfl ?_
      refine gb_putf (q := 46) (j := 0) (i := 0) dX0_step_43 rfl fp_X0_57 hB rfl rfl rfl (bz_le rfl) rfl rfl (fun g hB => ?_)
      refine g_aload_n (q := 47) dX0_step_46 rfl rfl ?_
      refine g_aload_n (q := 48) dX0_step_47 rfl rfl ?_
      refine gb_getf (q := 51) (j := 0) (i := 0) dX0_step_48 rfl fl_X0_23 hB rfl rfl rfl rfl ?_
      refine gb_callV (q := 54) (j := 0) (i := 0) dX0_step_51 rfl kv_X0_172 (c_byteAt (p := p1) hb hn hd (hB.1.at (j := 1) rfl) hlt (hB.1.at (j := 0) rfl)) rfl (by decide) hB rfl rfl rfl rfl (bz_le rfl) (by decide) (by decide) (fun r g1 hQ => ?_)
      obtain ⟨rfl, hg⟩ := hQ
      have hg := hg.symm
      subst hg
      refine g_istore_n (q := 55) rfl dX0_step_54 rfl (by decide) rfl ?_
      refine g_aload_n (q := 56) dX0_step_55 rfl rfl ?_
      refine gb_getf (q := 59) (j := 0) (i := 0) dX0_step_56 rfl fl_X0_23 hB rfl rfl rfl rfl ?_
      refine g_aload_n (q := 60) dX0_step_59 rfl rfl ?_
      refine gb_getf (q := 63) (j := 0) (i := 0) dX0_step_60 rfl fl_X0_19 hB rfl rfl rfl rfl ?_
      refine g_icmpN_lt (q := 66) (t := 74) dX0_step_63 rfl (by decide) (by omega) (by omega) (fun _ => ?_) (fun c => absurd c (by omega))
      refine g_iload_n (q := 75) dX0_step_74 rfl rfl ?_
      refine g_callS (q := 78) dX0_step_75 rfl ks_X0_183 rfl (c_isLetter (v := s8 (b p1))) (by decide) rfl (bz_le rfl) (by decide) (by decide) (fun r g1 hQ => ?_)
      obtain ⟨rfl, hg⟩ := hQ
      have hg := hg.symm
      subst hg
      refine g_eqi (v := tB (t_le (b p1))) (k_le_c _ (hb p1)) ?_
      refine g_if_eq (q := 81) (t := 88) dX0_step_78 rfl (by decide) (fun c_78 => ?_) (fun c_78 => ?_)
      · refine g_iload_n (q := 89) dX0_step_88 rfl rfl ?_
        refine g_callS (q := 92) dX0_step_89 rfl ks_X0_189 rfl (c_isDigit (v := s8 (b p1))) (by decide) rfl (bz_le rfl) (by decide) (by decide) (fun r g1 hQ => ?_)
        obtain ⟨rfl, hg⟩ := hQ
        have hg := hg.symm
        subst hg
        refine g_eqi (v := tB (t_di (b p1))) (k_di_c _ (hb p1)) ?_
        refine g_if_eq (q := 95) (t := 102) dX0_step_92 rfl (by decide) (fun c_92 => ?_) (fun c_92 => ?_)
        · refine g_aload_n (q := 103) dX0_step_102 rfl rfl ?_
          refine g_iload_n (q := 104) dX0_step_103 rfl rfl ?_
          refine g_callS (q := 107) dX0_step_104 rfl ks_X0_195 rfl (c_isSign (v := s8 (b p1))) (by decide) rfl (bz_le rfl) (by decide) (by decide) (fun r g1 hQ => ?_)
          obtain ⟨rfl, hg⟩ := hQ
          have hg := hg.symm
          subst hg
          refine g_eqi (v := tB (t_sg (b p1))) (k_sg_c _ (hb p1)) ?_
          refine g_if_eq (q := 110) (t := 114) dX0_step_107 rfl (by decide) (fun c_107 => ?_) (fun c_107 => ?_)
          · refine g_iconst (q := 115) (v := (nI 1)) dX0_step_114 rfl (by decide) ?_
            refine gb_putf (q := 118) (j := 0) (i := 0) dX0_step_115 rfl fp_X0_47 hB rfl rfl rfl (bz_le rfl) rfl rfl (fun g hB => ?_)
            refine g_aload_n (q := 119) dX0_step_118 rfl rfl ?_
            refine g_dup (q := 120) dX0_step_119 rfl rfl ?_
            refine gb_getf (q := 123) (j := 0) (i := 0) dX0_step_120 rfl fl_X0_23 hB rfl rfl rfl rfl ?_
            refine g_iconst (q := 124) (v := (nI 1)) dX0_step_123 rfl (by decide) ?_
            refine g_iaddN (q := 125) dX0_step_124 rfl ?_
            refine gb_putf (q := 128) (j := 0) (i := 0) dX0_step_125 rfl fp_X0_23 hB rfl rfl rfl (bz_le rfl) rfl rfl (fun g hB => ?_)
            exact g_vret dX0_step_128 rfl (⟨rfl, (1, p1, p1 + 1, 0), nm, hB.fst hX, by rw [hT, t_at_4 hlt (tB_0 c_78) (tB_0 c_92) (tB_0 c_107)], fun h => absurd h (by show ¬ (1 : Nat) = 3; decide)⟩)
          · refine g_iload_n (q := 111) dX0_step_110 rfl rfl ?_
            refine g_eqi (v := nI (b p1)) (s8_sg _ (hb p1) (tB_1 c_107)) ?_
            refine g_goto (q := 115) dX0_step_111 (by decide) ?_
            refine gb_putf (q := 118) (j := 0) (i := 0) dX0_step_115 rfl fp_X0_47 hB rfl rfl rfl (bz_le rfl) rfl rfl (fun g hB => ?_)
            refine g_aload_n (q := 119) dX0_step_118 rfl rfl ?_
            refine g_dup (q := 120) dX0_step_119 rfl rfl ?_
            refine gb_getf (q := 123) (j := 0) (i := 0) dX0_step_120 rfl fl_X0_23 hB rfl rfl rfl rfl ?_
            refine g_iconst (q := 124) (v := (nI 1)) dX0_step_123 rfl (by decide) ?_
            refine g_iaddN (q := 125) dX0_step_124 rfl ?_
            refine gb_putf (q := 128) (j := 0) (i := 0) dX0_step_125 rfl fp_X0_23 hB rfl rfl rfl (bz_le rfl) rfl rfl (fun g hB => ?_)
            exact g_vret dX0_step_128 rfl (⟨rfl, (b p1, p1, p1 + 1, 0), nm, hB.fst hX, by rw [hT, t_at_3 hlt (tB_0 c_78) (tB_0 c_92) (tB_1 c_107)], fun h => absurd h (t_sg_3 _ (hb p1) (tB_1 c_107))⟩)
        · refine g_aload_n (q := 96) dX0_step_95 rfl rfl ?_
          refine gb_callV (q := 99) (j := 0) (i := 0) dX0_step_96 rfl kv_X0_192 (c_stepOverNumber (tp := p1) hb hn hd (hB.1.at (j := 1) rfl) hp1 (hB.1.at (j := 0) rfl)) rfl (by decide) hB rfl rfl rfl rfl (bz_le rfl) (by decide) (by decide) (fun r g1 hQ => ?_)
          obtain ⟨rfl, k, h1, hk⟩ := hQ
          have hB := hB.sp (j := 0) rfl 0 rfl h1 (bz_le rfl)
          refine g_goto (q := 128) dX0_step_99 (by decide) ?_
          exact g_vret dX0_step_128 rfl (⟨rfl, (k, p1, t_end (fun i => t_di (b i)) n p1, t_num b p1 (t_end (fun i => t_di (b i)) n p1 - p1)), _, hB.fst hX, by rw [hT, t_at_2 hlt (tB_0 c_78) (tB_1 c_92), hk], fun _ => rfl⟩)
      · refine g_aload_n (q := 82) dX0_step_81 rfl rfl ?_
        refine gb_callV (q := 85) (j := 0) (i := 0) dX0_step_82 rfl kv_X0_186 (c_stepOverWord (tp := p1) hb hn hd (hB.1.at (j := 1) rfl) hp1 (hB.1.at (j := 0) rfl)) rfl (by decide) hB rfl rfl rfl rfl (bz_le rfl) (by decide) (by decide) (fun r g1 hQ => ?_)
        obtain ⟨rfl, k, h1, hk⟩ := hQ
        have hB := hB.sp (j := 0) rfl 0 rfl h1 (bz_le rfl)
        refine g_goto (q := 128) dX0_step_85 (by decide) ?_
        exact g_vret dX0_step_128 rfl (⟨rfl, (k, p1, t_end (fun i => t_le (b i)) n p1, 0), nm, hB.fst hX, by rw [hT, t_at_1 hlt (tB_1 c_78), hk], fun h => absurd (hk.symm.trans h) (by split <;> decide)⟩)
    ·
      refine g_aload_n (q := 39) dX0_step_38 rfl rfl ?_
      refine g_aload_n (q := 40) dX0_step_39 rfl rfl ?_
      refine gb_getf (q := 43) (j := 0) (i := 0) dX0_step_40 rfl fl_X0_23 hB rfl rfl rfl rfl ?_
      refine gb_putf (q := 46) (j := 0) (i := 0) dX0_step_43 rfl fp_X0_57 hB rfl rfl rfl (bz_le rfl) rfl rfl (fun g hB => ?_)
      refine g_aload_n (q := 47) dX0_step_46 rfl rfl ?_
      refine g_aload_n (q := 48) dX0_step_47 rfl rfl ?_
      refine gb_getf (q := 51) (j := 0) (i := 0) dX0_step_48 rfl fl_X0_23 hB rfl rfl rfl rfl ?_
      refine gb_callV (q := 54) (j := 0) (i := 0) dX0_step_51 rfl kv_X0_172 (c_byteAt1 (p := p1) hb hn hd (hB.1.at (j := 1) rfl) (by omega) (by omega) (hB.1.at (j := 0) rfl)) rfl (by decide) hB rfl rfl rfl rfl (bz_le rfl) (by decide) (by decide) (fun r g1 hQ => ?_)
      obtain ⟨rfl, hg⟩ := hQ
      have hg := hg.symm
      subst hg
      refine g_istore_n (q := 55) rfl dX0_step_54 rfl (by decide) rfl ?_
      refine g_aload_n (q := 56) dX0_step_55 rfl rfl ?_
      refine gb_getf (q := 59) (j := 0) (i := 0) dX0_step_56 rfl fl_X0_23 hB rfl rfl rfl rfl ?_
      refine g_aload_n (q := 60) dX0_step_59 rfl rfl ?_
      refine gb_getf (q := 63) (j := 0) (i := 0) dX0_step_60 rfl fl_X0_19 hB rfl rfl rfl rfl ?_
      refine g_icmpN_lt (q := 66) (t := 74) dX0_step_63 rfl (by decide) (by omega) (by omega) (fun c => absurd c (by omega)) (fun _ => ?_)
      refine g_aload_n (q := 67) dX0_step_66 rfl rfl ?_
      refine g_iconst (q := 68) (v := (nI 0)) dX0_step_67 rfl (by decide) ?_
      refine gb_putf (q := 71) (j := 0) (i := 0) dX0_step_68 rfl fp_X0_47 hB rfl rfl rfl (bz_le rfl) rfl rfl (fun g hB => ?_)
      refine g_goto (q := 128) dX0_step_71 (by decide) ?_
      exact g_vret dX0_step_128 rfl (⟨rfl, (0, p1, p1, 0), nm, hB.fst hX, by rw [hT, t_at_0 hlt], fun h => absurd h (by show ¬ (0 : Nat) = 3; decide)⟩)
  have hle := t_end_le (f := (fun i => t_sp (b i))) (n := n) (p := p) hp
  have KE : ∀ g1 : Nat → va_E, bz_B L g g1 [(o, (b_T E o x n (t_end (fun i => t_sp (b i)) n p) tk tp nm er ep hs ht f0 pd pc op)), (x, b_In E b)] → bz_G l E mX0_step (bz_R 2 0 0) L sz (bz_Fm E L sz (fun r g1 => r = none ∧ ∃ (t : Tok) (nm1 : Int32), bz_B L g g1 [(o, (b_T E o x n (kE t) (kK t) (kS t) nm1 er ep hs ht f0 pd pc op))] ∧ t = t_tok b n p ∧ (kK t = 3 → nm1 = nI (kN t)))) sz 0 0 L g1 38 [(0, .ref o)] [] := fun g1 hB => KE0 _ g1 hle.2 rfl hB
  have K : ∀ (m q : Nat) (g1 : Nat → va_E), n - q = m → p ≤ q → q ≤ n → t_end (fun i => t_sp (b i)) n q = (t_end (fun i => t_sp (b i)) n p) → bz_B L g g1 [(o, (b_T E o x n q tk tp nm er ep hs ht f0 pd pc op)), (x, b_In E b)] → bz_G l E mX0_step (bz_R 2 0 0) L sz (bz_Fm E L sz (fun r g1 => r = none ∧ ∃ (t : Tok) (nm1 : Int32), bz_B L g g1 [(o, (b_T E o x n (kE t) (kK t) (kS t) nm1 er ep hs ht f0 pd pc op))] ∧ t = t_tok b n p ∧ (kK t = 3 → nm1 = nI (kN t)))) sz 0 0 L g1 0 [(0, .ref o)] [] := by
    intro m
    induction m with
    | zero =>
      intro q g2 hm h1 h2 he hB
      have hq : q = (t_end (fun i => t_sp (b i)) n p) := by rw [← he]; exact (t_end_out (f := (fun i => t_sp (b i))) (by omega)).symm
      refine g_aload_n (q := 1) dX0_step_0 rfl rfl ?_
      refine gb_getf (q := 4) (j := 0) (i := 0) dX0_step_1 rfl fl_X0_23 hB rfl rfl rfl rfl ?_
      refine g_aload_n (q := 5) dX0_step_4 rfl rfl ?_
      refine gb_getf (q := 8) (j := 0) (i := 0) dX0_step_5 rfl fl_X0_19 hB rfl rfl rfl rfl ?_
      refine g_icmpN_ge (q := 11) (t := 38) dX0_step_8 rfl (by decide) (by omega) (by omega) (fun _ => ?_) (fun c => absurd c (by omega))
      subst hq
      exact KE _ hB
    | succ m ih =>
    intro q g2 hm h1 h2 he hB
    refine g_aload_n (q := 1) dX0_step_0 rfl rfl ?_
    refine gb_getf (q := 4) (j := 0) (i := 0) dX0_step_1 rfl fl_X0_23 hB rfl rfl rfl rfl ?_
    refine g_aload_n (q := 5) dX0_step_4 rfl rfl ?_
    refine gb_getf (q := 8) (j := 0) (i := 0) dX0_step_5 rfl fl_X0_19 hB rfl rfl rfl rfl ?_
    refine g_icmpN_ge (q := 11) (t := 38) dX0_step_8 rfl (by decide) (by omega) (by omega) (fun c_8 => ?_) (fun c_8 => ?_)
    · have hq : q = (t_end (fun i => t_sp (b i)) n p) := by rw [← he]; exact (t_end_out (f := (fun i => t_sp (b i))) (by omega)).symm
      subst hq
      exact KE _ hB
    · refine g_aload_n (q := 12) dX0_step_11 rfl rfl ?_
      refine g_aload_n (q := 13) dX0_step_12 rfl rfl ?_
      refine gb_getf (q := 16) (j := 0) (i := 0) dX0_step_13 rfl fl_X0_23 hB rfl rfl rfl rfl ?_
      refine gb_callV (q := 19) (j := 0) (i := 0) dX0_step_16 rfl kv_X0_172 (c_byteAt (p := q) hb hn hd (hB.1.at (j := 1) rfl) (by omega) (hB.1.at (j := 0) rfl)) rfl (by decide) hB rfl rfl rfl rfl (bz_le rfl) (by decide) (by decide) (fun r g1 hQ => ?_)
      obtain ⟨rfl, hg⟩ := hQ
      have hg := hg.symm
      subst hg
      refine g_callS (q := 22) dX0_step_19 rfl ks_X0_179 rfl (c_isSpace (v := s8 (b q))) (by decide) rfl (bz_le rfl) (by decide) (by decide) (fun r g1 hQ => ?_)
      obtain ⟨rfl, hg⟩ := hQ
      have hg := hg.symm
      subst hg
      refine g_eqi (v := tB (t_sp (b q))) (k_sp_c _ (hb q)) ?_
      refine g_if_eq (q := 25) (t := 38) dX0_step_22 rfl (by decide) (fun c_22 => ?_) (fun c_22 => ?_)
      · have hq : q = (t_end (fun i => t_sp (b i)) n p) := by rw [← he]; exact (t_end_stop (f := (fun i => t_sp (b i))) (tB_0 c_22)).symm
        subst hq
        exact KE _ hB
      · refine g_aload_n (q := 26) dX0_step_25 rfl rfl ?_
        refine g_dup (q := 27) dX0_step_26 rfl rfl ?_
        refine gb_getf (q := 30) (j := 0) (i := 0) dX0_step_27 rfl fl_X0_23 hB rfl rfl rfl rfl ?_
        refine g_iconst (q := 31) (v := (nI 1)) dX0_step_30 rfl (by decide) ?_
        refine g_iaddN (q := 32) dX0_step_31 rfl ?_
        refine gb_putf (q := 35) (j := 0) (i := 0) dX0_step_32 rfl fp_X0_23 hB rfl rfl rfl (bz_le rfl) rfl rfl (fun g hB => ?_)
        refine g_goto (q := 0) dX0_step_35 (by decide) ?_
        refine ih (q + 1) _ (by omega) (by omega) (by omega) (by rw [← he]; exact (t_end_go (f := (fun i => t_sp (b i))) (by omega) (tB_1 c_22)).symm) hB
  exact K _ p _ rfl (Nat.le_refl _) hp rfl hB

