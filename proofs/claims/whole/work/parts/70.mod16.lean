/-! the reference: what is foretold -/
def s_emp (σ : Si) : Bool := decide (σ.2.1.1.length + σ.2.1.2.1.length + σ.2.2.1.length + σ.2.2.2.1.length = 0)

set_option maxRecDepth 20000 in
set_option maxHeartbeats 1000000 in
theorem c_mrestsAfter {l : Launch} {E : bz_E} {L : List Nat} {g : Nat → va_E} {o : Nat} {I : Nat → Int32} {A : Nat → Nat → Int32} {pl : Pl} {σ : Si} (hpl : m_pl A pl) (hst : m_st (A 1) σ) (hin : s_inv pl σ) (hnow : σ.1 < 20000) (hH : bz_H L g o (b_Mod E o I A)) : bz_K l E mX9_restsAfter 6 [.ref o] L g (fun r g1 => r = some (.int (if 500 < s_last pl σ 560 then -1 else nI (s_last pl σ 560))) ∧ ∃ (N F v : Nat → Int32) (mv : Int32), bz_B L g g1 [(o, b_Mod E o (va_up (va_up I 24 mv) 26 (tB (s_emp (s_run pl 560 σ)))) (va_up (va_up (va_up (va_up A 12 (va_cpy (A 1) (A 12) 0 0 2075)) 11 F) 10 v) 1 N))] ∧ m_st N σ) := by
  refine bz_K.of (by decide) (bz_le rfl) (fun sz => ?_)
  show bz_G _ _ _ _ _ _ _ _ _ _ _ _ 0 [(0, .ref o)] []
  have hB := bz_B.rf (bz_W.one hH)
  have hsp := hpl.2.2.2.2.1.1
  have K : ∀ (m n : Nat) (N F v : Nat → Int32) (mv : Int32) (g1 : Nat → va_E), n + m = 560 → m_st N (s_run pl n σ) → bz_B L g g1 [(o, (b_Mod E o (va_up I 24 mv) (va_up (va_up (va_up (va_up A 12 (va_cpy (A 1) (A 12) 0 0 2075)) 11 F) 10 v) 1 N)))] → bz_G l E mX9_restsAfter (bz_R 6 0 0) L sz (bz_Fm E L sz (fun r g1 => r = some (.int (if 500 < s_last pl σ 560 then -1 else nI (s_last pl σ 560))) ∧ ∃ (N F v : Nat → Int32) (mv : Int32), bz_B L g g1 [(o, b_Mod E o (va_up (va_up I 24 mv) 26 (tB (s_emp (s_run pl 560 σ)))) (va_up (va_up (va_up (va_up A 12 (va_cpy (A 1) (A 12) 0 0 2075)) 11 F) 10 v) 1 N))] ∧ m_st N σ)) sz 0 0 L g1 20 [(2, .int (nI (n + 1))), (1, .int (nI (s_last pl σ n))), (0, .ref o)] [] := by
    intro m
    induction m with
    | zero =>
      intro n N F v mv g2 hn hN hB
      have hn2 : n = 560 := by omega
      subst hn2
      have l1 := hN.2.1.2.2.2.2.2.2.2.2.2.1.len
      have l2 := hN.2.1.2.2.2.2.2.2.2.2.2.2.len
      have l3 := hN.2.2.2.2.2.2.2.2.2.2.2.1.len
      have l4 := hN.2.2.2.2.2.2.2.2.2.2.2.2.len
      have hsl := s_last_le pl σ 560
      have hback : m_st (va_cpy (va_cpy (A 1) (A 12) 0 0 2075) N 0 0 2075) σ := m_st_fr hst (fun j hj => by
        have h9 := va_cpyin (f := (va_cpy (A 1) (A 12) 0 0 2075)) (h := N) (a := 0) (b := 0) hj
        have h8 := va_cpyin (f := A 1) (h := A 12) (a := 0) (b := 0) hj
        rw [Nat.zero_add] at h8 h9
        exact h9.trans h8)
      refine g_iload_n (q := 21) dX9_restsAfter_20 rfl rfl ?_
      refine g_sipush (q := 24) (v := (nI 560)) dX9_restsAfter_21 rfl (by decide) ?_
      refine g_icmpN_gt (q := 27) (t := 50) dX9_restsAfter_24 rfl (by decide) (by omega) (by omega) (fun _ => ?_) (fun c => absurd c (by omega))
      refine g_aload_n (q := 51) dX9_restsAfter_50 rfl rfl ?_
      refine g_aload_n (q := 52) dX9_restsAfter_51 rfl rfl ?_
      refine gb_getf (q := 55) (j := 0) (i := 0) dX9_restsAfter_52 rfl fl_X9_7 hB rfl rfl rfl rfl ?_
      refine g_iconst (q := 56) (v := (nI 1)) dX9_restsAfter_55 rfl (by decide) ?_
      refine gb_ialdN (q := 57) (j := 0) (i := 1) dX9_restsAfter_56 rfl hB rfl rfl rfl (by omega) (by decide) ?_
      refine g_eqi (v := nI ((s_run pl 560 σ).2.1.1.length)) (hN.2.1.1) ?_
      refine g_aload_n (q := 58) dX9_restsAfter_57 rfl rfl ?_
      refine gb_getf (q := 61) (j := 0) (i := 0) dX9_restsAfter_58 rfl fl_X9_7 hB rfl rfl rfl rfl ?_
      refine g_iconst (q := 62) (v := (nI 2)) dX9_restsAfter_61 rfl (by decide) ?_
      refine gb_ialdN (q := 63) (j := 0) (i := 1) dX9_restsAfter_62 rfl hB rfl rfl rfl (by omega) (by decide) ?_
      refine g_eqi (v := nI ((s_run pl 560 σ).2.2.1.length)) (hN.2.2.1) ?_
      refine g_iaddN (q := 64) dX9_restsAfter_63 rfl ?_
      refine g_aload_n (q := 65) dX9_restsAfter_64 rfl rfl ?_
      refine gb_getf (q := 68) (j := 0) (i := 0) dX9_restsAfter_65 rfl fl_X9_7 hB rfl rfl rfl rfl ?_
      refine g_iconst (q := 69) (v := (nI 3)) dX9_restsAfter_68 rfl (by decide) ?_
      refine gb_ialdN (q := 70) (j := 0) (i := 1) dX9_restsAfter_69 rfl hB rfl rfl rfl (by omega) (by decide) ?_
      refine g_eqi (v := nI ((s_run pl 560 σ).2.1.2.1.length)) (hN.2.1.2.1) ?_
      refine g_iaddN (q := 71) dX9_restsAfter_70 rfl ?_
      refine g_aload_n (q := 72) dX9_restsAfter_71 rfl rfl ?_
      refine gb_getf (q := 75) (j := 0) (i := 0) dX9_restsAfter_72 rfl fl_X9_7 hB rfl rfl rfl rfl ?_
      refine g_iconst (q := 76) (v := (nI 4)) dX9_restsAfter_75 rfl (by decide) ?_
      refine gb_ialdN (q := 77) (j := 0) (i := 1) dX9_restsAfter_76 rfl hB rfl rfl rfl (by omega) (by decide) ?_
      refine g_eqi (v := nI ((s_run pl 560 σ).2.2.2.1.length)) (hN.2.2.2.1) ?_
      refine g_iaddN (q := 78) dX9_restsAfter_77 rfl ?_
      refine g_ifN_ne (q := 81) (t := 85) dX9_restsAfter_78 rfl (by decide) (by omega) (fun c_78 => ?_) (fun c_78 => ?_)
      · refine g_iconst (q := 86) (v := (nI 0)) dX9_restsAfter_85 rfl (by decide) ?_
        refine gb_putf (q := 89) (j := 0) (i := 0) dX9_restsAfter_86 rfl fp_X9_312 hB rfl rfl rfl (bz_le rfl) rfl rfl (fun g hB => ?_)
        refine g_aload_n (q := 90) dX9_restsAfter_89 rfl rfl ?_
        refine gb_getf (q := 93) (j := 0) (i := 0) dX9_restsAfter_90 rfl fl_X9_48 hB rfl rfl rfl rfl ?_
        refine g_iconst (q := 94) (v := (nI 0)) dX9_restsAfter_93 rfl (by decide) ?_
        refine g_aload_n (q := 95) dX9_restsAfter_94 rfl rfl ?_
        refine gb_getf (q := 98) (j := 0) (i := 0) dX9_restsAfter_95 rfl fl_X9_7 hB rfl rfl rfl rfl ?_
        refine g_iconst (q := 99) (v := (nI 0)) dX9_restsAfter_98 rfl (by decide) ?_
        refine g_sipush (q := 102) (v := (nI 2075)) dX9_restsAfter_99 rfl (by decide) ?_
        refine g_callS (q := 105) dX9_restsAfter_102 rfl ks_X9_305 rfl (c_copies0 (p := o + 12) (q := o + 1) (n1 := 2075) (n2 := 2075) (f := (va_cpy (A 1) (A 12) 0 0 2075)) (h := N) (a := 0) (b := 0) (n := 2075) ((hB.1.at (j := 0) rfl).sub 12 rfl) ((hB.1.at (j := 0) rfl).sub 1 rfl) (by omega) (by omega) (by omega) (by decide) (by decide)) (by decide) rfl (bz_le rfl) (by decide) (by decide) (fun r g1 hQ => ?_)
        obtain ⟨rfl, h1⟩ := hQ
        have hB := hB.sp (j := 0) rfl 1 rfl h1 (bz_le rfl)
        refine g_iload_n (q := 106) dX9_restsAfter_105 rfl rfl ?_
        refine g_sipush (q := 109) (v := (nI 500)) dX9_restsAfter_106 rfl (by decide) ?_
        refine g_icmpN_le (q := 112) (t := 116) dX9_restsAfter_109 rfl (by decide) (by omega) (by omega) (fun c_109 => ?_) (fun c_109 => ?_)
        · refine g_iload_n (q := 117) dX9_restsAfter_116 rfl rfl ?_
          exact g_iret dX9_restsAfter_117 rfl (⟨by first | rw [if_neg (by omega)] | rw [if_pos (by omega)], _, F, v, mv, by first | (rw [show tB (s_emp (s_run pl 560 σ)) = nI 0 from (tB_f (decide_eq_false (by omega))).symm]; exact hB) | (rw [show tB (s_emp (s_run pl 560 σ)) = nI 1 from (tB_t (decide_eq_true (by omega))).symm]; exact hB), hback⟩)
        · refine g_iconst (q := 113) (v := (-1)) dX9_restsAfter_112 rfl (by decide) ?_
          refine g_goto (q := 117) dX9_restsAfter_113 (by decide) ?_
          exact g_iret dX9_restsAfter_117 rfl (⟨by first | rw [if_neg (by omega)] | rw [if_pos (by omega)], _, F, v, mv, by first | (rw [show tB (s_emp (s_run pl 560 σ)) = nI 0 from (tB_f (decide_eq_false (by omega))).symm]; exact hB) | (rw [show tB (s_emp (s_run pl 560 σ)) = nI 1 from (tB_t (decide_eq_true (by omega))).symm]; exact hB), hback⟩)
      · refine g_iconst (q := 82) (v := (nI 1)) dX9_restsAfter_81 rfl (by decide) ?_
        refine g_goto (q := 86) dX9_restsAfter_82 (by decide) ?_
        refine gb_putf (q := 89) (j := 0) (i := 0) dX9_restsAfter_86 rfl fp_X9_312 hB rfl rfl rfl (bz_le rfl) rfl rfl (fun g hB => ?_)
        refine g_aload_n (q := 90) dX9_restsAfter_89 rfl rfl ?_
        refine gb_getf (q := 93) (j := 0) (i := 0) dX9_restsAfter_90 rfl fl_X9_48 hB rfl rfl rfl rfl ?_
        refine g_iconst (q := 94) (v := (nI 0)) dX9_restsAfter_93 rfl (by decide) ?_
        refine g_aload_n (q := 95) dX9_restsAfter_94 rfl rfl ?_
        refine gb_getf (q := 98) (j := 0) (i := 0) dX9_restsAfter_95 rfl fl_X9_7 hB rfl rfl rfl rfl ?_
        refine g_iconst (q := 99) (v := (nI 0)) dX9_restsAfter_98 rfl (by decide) ?_
        refine g_sipush (q := 102) (v := (nI 2075)) dX9_restsAfter_99 rfl (by decide) ?_
        refine g_callS (q := 105) dX9_restsAfter_102 rfl ks_X9_305 rfl (c_copies0 (p := o + 12) (q := o + 1) (n1 := 2075) (n2 := 2075) (f := (va_cpy (A 1) (A 12) 0 0 2075)) (h := N) (a := 0) (b := 0) (n := 2075) ((hB.1.at (j := 0) rfl).sub 12 rfl) ((hB.1.at (j := 0) rfl).sub 1 rfl) (by omega) (by omega) (by omega) (by decide) (by decide)) (by decide) rfl (bz_le rfl) (by decide) (by decide) (fun r g1 hQ => ?_)
        obtain ⟨rfl, h1⟩ := hQ
        have hB := hB.sp (j := 0) rfl 1 rfl h1 (bz_le rfl)
        refine g_iload_n (q := 106) dX9_restsAfter_105 rfl rfl ?_
        refine g_sipush (q := 109) (v := (nI 500)) dX9_restsAfter_106 rfl (by decide) ?_
        refine g_icmpN_le (q := 112) (t := 116) dX9_restsAfter_109 rfl (by decide) (by omega) (by omega) (fun c_109 => ?_) (fun c_109 => ?_)
        · refine g_iload_n (q := 117) dX9_restsAfter_116 rfl rfl ?_
          exact g_iret dX9_restsAfter_117 rfl (⟨by first | rw [if_neg (by omega)] | rw [if_pos (by omega)], _, F, v, mv, by first | (rw [show tB (s_emp (s_run pl 560 σ)) = nI 0 from (tB_f (decide_eq_false (by omega))).symm]; exact hB) | (rw [show tB (s_emp (s_run pl 560 σ)) = nI 1 from (tB_t (decide_eq_true (by omega))).symm]; exact hB), hback⟩)
        · refine g_iconst (q := 113) (v := (-1)) dX9_restsAfter_112 rfl (by decide) ?_
          refine g_goto (q := 117) dX9_restsAfter_113 (by decide) ?_
          exact g_iret dX9_restsAfter_117 rfl (⟨by first | rw [if_neg (by omega)] | rw [if_pos (by omega)], _, F, v, mv, by first | (rw [show tB (s_emp (s_run pl 560 σ)) = nI 0 from (tB_f (decide_eq_false (by omega))).symm]; exact hB) | (rw [show tB (s_emp (s_run pl 560 σ)) = nI 1 from (tB_t (decide_eq_true (by omega))).symm]; exact hB), hback⟩)
    | succ m ih =>
      intro n N F v mv g2 hn hN hB
      cases hm : s_moved pl (s_run pl n σ) with
      | true =>
        refine g_iload_n (q := 21) dX9_restsAfter_20 rfl rfl ?_
        refine g_sipush (q := 24) (v := (nI 560)) dX9_restsAfter_21 rfl (by decide) ?_
        refine g_icmpN_gt (q := 27) (t := 50) dX9_restsAfter_24 rfl (by decide) (by omega) (by omega) (fun c => absurd c (by omega)) (fun _ => ?_)
        refine g_aload_n (q := 28) dX9_restsAfter_27 rfl rfl ?_
        refine gb_callV (q := 31) (j := 0) (i := 0) dX9_restsAfter_28 rfl kv_X9_309 (c_mticks (I := va_up I 24 mv) (A := (va_up (va_up (va_up (va_up A 12 (va_cpy (A 1) (A 12) 0 0 2075)) 11 F) 10 v) 1 N)) (pl := pl) (σ := s_run pl n σ) hpl hN ((hin.run hsp n).tok hsp) (by rw [s_run1]; omega) (hB.1.at (j := 0) rfl)) rfl (by decide) hB rfl rfl rfl rfl (bz_le rfl) (by decide) (by decide) (fun r g1 hQ => ?_)
        obtain ⟨rfl, N1, F1, v1, h1, hN1⟩ := hQ
        have hB := hB.sp (j := 0) rfl 0 rfl h1 (bz_le rfl)
        refine g_aload_n (q := 32) dX9_restsAfter_31 rfl rfl ?_
        refine gb_getf (q := 35) (j := 0) (i := 0) dX9_restsAfter_32 rfl fl_X9_285 hB rfl rfl rfl rfl ?_
        refine g_eqi (v := nI (1)) (show tB (s_moved pl (s_run pl n σ)) = _ by rw [hm]; rfl) ?_
        refine g_ifN_eq (q := 38) (t := 42) dX9_restsAfter_35 rfl (by decide) (by omega) (fun c => absurd c (by omega)) (fun _ => ?_)
        refine g_iload_n (q := 39) dX9_restsAfter_38 rfl rfl ?_
        refine g_goto (q := 43) dX9_restsAfter_39 (by decide) ?_
        refine g_istore_n (q := 44) rfl dX9_restsAfter_43 rfl (by decide) rfl ?_
        refine g_iincN (q := 47) (c := 1) dX9_restsAfter_44 rfl (by decide) rfl rfl (by decide) ?_
        refine g_goto (q := 20) dX9_restsAfter_47 (by decide) ?_
        refine g_lvs (lv1 := [(2, .int (nI (n + 1 + 1))), (1, .int (nI (n + 1))), (0, .ref o)]) ⟨rfl, rfl, rfl, trivial⟩ ?_
        have hla : s_last pl σ (n + 1) = n + 1 := by rw [s_last, hm]; rfl
        refine g_lvs (lv1 := [(2, .int (nI (n + 1 + 1))), (1, .int (nI (s_last pl σ (n + 1)))), (0, .ref o)]) ⟨rfl, by rw [hla]; rfl, rfl, trivial⟩ ?_
        exact ih (n + 1) N1 F1 v1 (tB (s_moved pl (s_run pl n σ))) _ (by omega) (by rw [s_run_s]; exact hN1) hB
      | false =>
        refine g_iload_n (q := 21) dX9_restsAfter_20 rfl rfl ?_
        refine g_sipush (q := 24) (v := (nI 560)) dX9_restsAfter_21 rfl (by decide) ?_
        refine g_icmpN_gt (q := 27) (t := 50) dX9_restsAfter_24 rfl (by decide) (by omega) (by omega) (fun c => absurd c (by omega)) (fun _ => ?_)
        refine g_aload_n (q := 28) dX9_restsAfter_27 rfl rfl ?_
        refine gb_callV (q := 31) (j := 0) (i := 0) dX9_restsAfter_28 rfl kv_X9_309 (c_mticks (I := va_up I 24 mv) (A := (va_up (va_up (va_up (va_up A 12 (va_cpy (A 1) (A 12) 0 0 2075)) 11 F) 10 v) 1 N)) (pl := pl) (σ := s_run pl n σ) hpl hN ((hin.run hsp n).tok hsp) (by rw [s_run1]; omega) (hB.1.at (j := 0) rfl)) rfl (by decide) hB rfl rfl rfl rfl (bz_le rfl) (by decide) (by decide) (fun r g1 hQ => ?_)
        obtain ⟨rfl, N1, F1, v1, h1, hN1⟩ := hQ
        have hB := hB.sp (j := 0) rfl 0 rfl h1 (bz_le rfl)
        refine g_aload_n (q := 32) dX9_restsAfter_31 rfl rfl ?_
        refine gb_getf (q := 35) (j := 0) (i := 0) dX9_restsAfter_32 rfl fl_X9_285 hB rfl rfl rfl rfl ?_
        refine g_eqi (v := nI (0)) (show tB (s_moved pl (s_run pl n σ)) = _ by rw [hm]; rfl) ?_
        refine g_ifN_eq (q := 38) (t := 42) dX9_restsAfter_35 rfl (by decide) (by omega) (fun _ => ?_) (fun c => absurd c (by omega))
        refine g_iload_n (q := 43) dX9_restsAfter_42 rfl rfl ?_
        refine g_istore_n (q := 44) rfl dX9_restsAfter_43 rfl (by decide) rfl ?_
        refine g_iincN (q := 47) (c := 1) dX9_restsAfter_44 rfl (by decide) rfl rfl (by decide) ?_
        refine g_goto (q := 20) dX9_restsAfter_47 (by decide) ?_
        refine g_lvs (lv1 := [(2, .int (nI (n + 1 + 1))), (1, .int (nI (s_last pl σ n))), (0, .ref o)]) ⟨rfl, rfl, rfl, trivial⟩ ?_
        have hla : s_last pl σ (n + 1) = s_last pl σ n := by rw [s_last, hm]; rfl
        refine g_lvs (lv1 := [(2, .int (nI (n + 1 + 1))), (1, .int (nI (s_last pl σ (n + 1)))), (0, .ref o)]) ⟨rfl, by rw [hla]; rfl, rfl, trivial⟩ ?_
        exact ih (n + 1) N1 F1 v1 (tB (s_moved pl (s_run pl n σ))) _ (by omega) (by rw [s_run_s]; exact hN1) hB
  refine g_aload_n (q := 1) dX9_restsAfter_0 rfl rfl ?_
  refine gb_getf (q := 4) (j := 0) (i := 0) dX9_restsAfter_1 rfl fl_X9_7 hB rfl rfl rfl rfl ?_
  refine g_iconst (q := 5) (v := (nI 0)) dX9_restsAfter_4 rfl (by decide) ?_
  refine g_aload_n (q := 6) dX9_restsAfter_5 rfl rfl ?_
  refine gb_getf (q := 9) (j := 0) (i := 0) dX9_restsAfter_6 rfl fl_X9_48 hB rfl rfl rfl rfl ?_
  refine g_iconst (q := 10) (v := (nI 0)) dX9_restsAfter_9 rfl (by decide) ?_
  refine g_sipush (q := 13) (v := (nI 2075)) dX9_restsAfter_10 rfl (by decide) ?_
  refine g_callS (q := 16) dX9_restsAfter_13 rfl ks_X9_305 rfl (c_copies0 (p := o + 1) (q := o + 12) (n1 := 2075) (n2 := 2075) (f := A 1) (h := A 12) (a := 0) (b := 0) (n := 2075) ((hB.1.at (j := 0) rfl).sub 1 rfl) ((hB.1.at (j := 0) rfl).sub 12 rfl) (by omega) (by omega) (by omega) (by decide) (by decide)) (by decide) rfl (bz_le rfl) (by decide) (by decide) (fun r g1 hQ => ?_)
  obtain ⟨rfl, h1⟩ := hQ
  have hB := hB.sp (j := 0) rfl 12 rfl h1 (bz_le rfl)
  refine g_iconst (q := 17) (v := (nI 0)) dX9_restsAfter_16 rfl (by decide) ?_
  refine g_istore_n (q := 18) rfl dX9_restsAfter_17 rfl (by decide) rfl ?_
  refine g_iconst (q := 19) (v := (nI 1)) dX9_restsAfter_18 rfl (by decide) ?_
  refine g_istore_n (q := 20) rfl dX9_restsAfter_19 rfl (by decide) rfl ?_
  refine g_lvs (lv1 := [(2, .int (nI (0 + 1))), (1, .int (nI (s_last pl σ 0))), (0, .ref o)]) ⟨rfl, rfl, rfl, trivial⟩ ?_
  exact K 560 0 (A 1) (A 11) (A 10) (I 24) _ (by omega) hst hB
theorem c_mrestsA {l : Launch} {E : bz_E} {L : List Nat} {g : Nat → va_E} {o : Nat} {I : Nat → Int32} {A : Nat → Nat → Int32} {pl : Pl} {σ : Si} {ls : Nat} {em : Bool} (hls : s_last pl σ 560 = ls) (hem : s_emp (s_run pl 560 σ) = em) (hpl : m_pl A pl) (hst : m_st (A 1) σ) (hin : s_inv pl σ) (hnow : σ.1 < 20000) (hH : bz_H L g o (b_Mod E o I A)) : bz_K l E mX9_restsAfter 6 [.ref o] L g (fun r g1 => r = some (.int (if 500 < ls then -1 else nI (ls))) ∧ ∃ (N F v : Nat → Int32) (mv : Int32), bz_B L g g1 [(o, b_Mod E o (va_up (va_up I 24 mv) 26 (tB em)) (va_up (va_up (va_up (va_up A 12 (va_cpy (A 1) (A 12) 0 0 2075)) 11 F) 10 v) 1 N))] ∧ m_st N σ) := by
  subst hls; subst hem
  exact c_mrestsAfter hpl hst hin hnow hH
set_option maxRecDepth 20000 in
set_option maxHeartbeats 1000000 in
theorem c_mticksToRest {l : Launch} {E : bz_E} {L : List Nat} {g : Nat → va_E} {o : Nat} {I : Nat → Int32} {A : Nat → Nat → Int32} {pl : Pl} {σ : Si} {ls : Nat} {em : Bool} (hls : s_last pl σ 560 = ls) (hem : s_emp (s_run pl 560 σ) = em) (hpl : m_pl A pl) (hst : m_st (A 1) σ) (hin : s_inv pl σ) (hnow : σ.1 < 20000) (hH : bz_H L g o (b_Mod E o I A)) : bz_K l E mX9_ticksToRest 7 [.ref o] L g (fun r g1 => r = some (.int (if 500 < ls then -1 else nI ls)) ∧ ∃ (N W F v : Nat → Int32) (mv em1 : Int32), bz_B L g g1 [(o, b_Mod E o (va_up (va_up (va_up I 0 (nI 0)) 24 mv) 26 em1) (va_up (va_up (va_up (va_up A 12 W) 11 F) 10 v) 1 N))] ∧ m_st N σ) := by
  refine bz_K.of (by decide) (bz_le rfl) (fun sz => ?_)
  have hB := bz_B.rf (bz_W.one hH)
  show bz_G _ _ _ _ _ _ _ _ _ _ _ _ 0 [(0, .ref o)] []
  refine g_aload_n (q := 1) dX9_ticksToRest_0 rfl rfl ?_
  refine g_iconst (q := 2) (v := (nI 0)) dX9_ticksToRest_1 rfl (by decide) ?_
  refine gb_putf (q := 5) (j := 0) (i := 0) dX9_ticksToRest_2 rfl fp_X9_70 hB rfl rfl rfl (bz_le rfl) rfl rfl (fun g hB => ?_)
  refine g_aload_n (q := 6) dX9_ticksToRest_5 rfl rfl ?_
  refine gb_callV (q := 9) (j := 0) (i := 0) dX9_ticksToRest_6 rfl kv_X9_315 (c_mrestsA (I := va_up I 0 (nI 0)) (A := A) (pl := pl) (σ := σ) hls hem hpl hst hin hnow (hB.1.at (j := 0) rfl)) rfl (by decide) hB rfl rfl rfl rfl (bz_le rfl) (by decide) (by decide) (fun r g1 hQ => ?_)
  obtain ⟨rfl, N, F, v, mv, h1, hN⟩ := hQ
  have hB := hB.sp (j := 0) rfl 0 rfl h1 (bz_le rfl)
  exact g_iret dX9_ticksToRest_9 rfl (⟨rfl, N, _, F, v, mv, _, hB, hN⟩)
set_option maxRecDepth 20000 in
set_option maxHeartbeats 1000000 in
theorem c_misStuck {l : Launch} {E : bz_E} {L : List Nat} {g : Nat → va_E} {o : Nat} {I : Nat → Int32} {A : Nat → Nat → Int32} {pl : Pl} {σ : Si} {ls : Nat} {em : Bool} (hls : s_last pl σ 560 = ls) (hem : s_emp (s_run pl 560 σ) = em) (hpl : m_pl A pl) (hst : m_st (A 1) σ) (hin : s_inv pl σ) (hnow : σ.1 < 20000) (hH : bz_H L g o (b_Mod E o I A)) : bz_K l E mX9_isStuck 7 [.ref o] L g (fun r g1 => r = some (.int (tB (decide (ls ≤ 500) && !em))) ∧ ∃ (N W F v : Nat → Int32) (mv em1 : Int32), bz_B L g g1 [(o, b_Mod E o (va_up (va_up (va_up I 0 (nI 0)) 24 mv) 26 em1) (va_up (va_up (va_up (va_up A 12 W) 11 F) 10 v) 1 N))] ∧ m_st N σ) := by
  refine bz_K.of (by decide) (bz_le rfl) (fun sz => ?_)
  show bz_G _ _ _ _ _ _ _ _ _ _ _ _ 0 [(0, .ref o)] []
  have hB := bz_B.rf (bz_W.one hH)
  by_cases c : 500 < ls
  ·
    refine g_aload_n (q := 1) dX9_isStuck_0 rfl rfl ?_
    refine g_iconst (q := 2) (v := (nI 0)) dX9_isStuck_1 rfl (by decide) ?_
    refine gb_putf (q := 5) (j := 0) (i := 0) dX9_isStuck_2 rfl fp_X9_70 hB rfl rfl rfl (bz_le rfl) rfl rfl (fun g hB => ?_)
    refine g_aload_n (q := 6) dX9_isStuck_5 rfl rfl ?_
    refine gb_callV (q := 9) (j := 0) (i := 0) dX9_isStuck_6 rfl kv_X9_315 (c_mrestsA (I := va_up I 0 (nI 0)) (A := A) (pl := pl) (σ := σ) hls hem hpl hst hin hnow (hB.1.at (j := 0) rfl)) rfl (by decide) hB rfl rfl rfl rfl (bz_le rfl) (by decide) (by decide) (fun r g1 hQ => ?_)
    obtain ⟨rfl, N, F, v, mv, h1, hN⟩ := hQ
    have hB := hB.sp (j := 0) rfl 0 rfl h1 (bz_le rfl)
    refine g_eqi (v := -1) (if_pos c) ?_
    refine g_iconst (q := 10) (v := (-1)) dX9_isStuck_9 rfl (by decide) ?_
    refine g_icmp_eq (q := 13) (t := 24) dX9_isStuck_10 rfl (by decide) (fun _ => ?_) (fun c => absurd (rfl) c)
    refine g_iconst (q := 25) (v := (nI 0)) dX9_isStuck_24 rfl (by decide) ?_
    exact g_zret dX9_isStuck_25 rfl rfl ⟨by rw [decide_eq_false (show ¬ ls ≤ 500 by omega)]; rfl, N, _, F, v, mv, _, hB, hN⟩
  · cases em with
    | true =>
      refine g_aload_n (q := 1) dX9_isStuck_0 rfl rfl ?_
      refine g_iconst (q := 2) (v := (nI 0)) dX9_isStuck_1 rfl (by decide) ?_
      refine gb_putf (q := 5) (j := 0) (i := 0) dX9_isStuck_2 rfl fp_X9_70 hB rfl rfl rfl (bz_le rfl) rfl rfl (fun g hB => ?_)
      refine g_aload_n (q := 6) dX9_isStuck_5 rfl rfl ?_
      refine gb_callV (q := 9) (j := 0) (i := 0) dX9_isStuck_6 rfl kv_X9_315 (c_mrestsA (I := va_up I 0 (nI 0)) (A := A) (pl := pl) (σ := σ) hls hem hpl hst hin hnow (hB.1.at (j := 0) rfl)) rfl (by decide) hB rfl rfl rfl rfl (bz_le rfl) (by decide) (by decide) (fun r g1 hQ => ?_)
      obtain ⟨rfl, N, F, v, mv, h1, hN⟩ := hQ
      have hB := hB.sp (j := 0) rfl 0 rfl h1 (bz_le rfl)
      refine g_eqi (v := nI (ls)) (if_neg c) ?_
      refine g_iconst (q := 10) (v := (-1)) dX9_isStuck_9 rfl (by decide) ?_
      refine g_icmp_eq (q := 13) (t := 24) dX9_isStuck_10 rfl (by decide) (fun c => absurd c (nI_nm _ (by omega))) (fun _ => ?_)
      refine g_aload_n (q := 14) dX9_isStuck_13 rfl rfl ?_
      refine gb_getf (q := 17) (j := 0) (i := 0) dX9_isStuck_14 rfl fl_X9_312 hB rfl rfl rfl rfl ?_
      refine g_eqi (v := nI (1)) (rfl) ?_
      refine g_ifN_ne (q := 20) (t := 24) dX9_isStuck_17 rfl (by decide) (by omega) (fun _ => ?_) (fun c => absurd c (by omega))
      refine g_iconst (q := 25) (v := (nI 0)) dX9_isStuck_24 rfl (by decide) ?_
      exact g_zret dX9_isStuck_25 rfl rfl ⟨by rw [decide_eq_true (show ls ≤ 500 by omega)]; rfl, N, _, F, v, mv, _, hB, hN⟩
    | false =>
      refine g_aload_n (q := 1) dX9_isStuck_0 rfl rfl ?_
      refine g_iconst (q := 2) (v := (nI 0)) dX9_isStuck_1 rfl (by decide) ?_
      refine gb_putf (q := 5) (j := 0) (i := 0) dX9_isStuck_2 rfl fp_X9_70 hB rfl rfl rfl (bz_le rfl) rfl rfl (fun g hB => ?_)
      refine g_aload_n (q := 6) dX9_isStuck_5 rfl rfl ?_
      refine gb_callV (q := 9) (j := 0) (i := 0) dX9_isStuck_6 rfl kv_X9_315 (c_mrestsA (I := va_up I 0 (nI 0)) (A := A) (pl := pl) (σ := σ) hls hem hpl hst hin hnow (hB.1.at (j := 0) rfl)) rfl (by decide) hB rfl rfl rfl rfl (bz_le rfl) (by decide) (by decide) (fun r g1 hQ => ?_)
      obtain ⟨rfl, N, F, v, mv, h1, hN⟩ := hQ
      have hB := hB.sp (j := 0) rfl 0 rfl h1 (bz_le rfl)
      refine g_eqi (v := nI (ls)) (if_neg c) ?_
      refine g_iconst (q := 10) (v := (-1)) dX9_isStuck_9 rfl (by decide) ?_
      refine g_icmp_eq (q := 13) (t := 24) dX9_isStuck_10 rfl (by decide) (fun c => absurd c (nI_nm _ (by omega))) (fun _ => ?_)
      refine g_aload_n (q := 14) dX9_isStuck_13 rfl rfl ?_
      refine gb_getf (q := 17) (j := 0) (i := 0) dX9_isStuck_14 rfl fl_X9_312 hB rfl rfl rfl rfl ?_
      refine g_eqi (v := nI (0)) (rfl) ?_
      refine g_ifN_ne (q := 20) (t := 24) dX9_isStuck_17 rfl (by decide) (by omega) (fun c => absurd c (by omega)) (fun _ => ?_)
      refine g_iconst (q := 21) (v := (nI 1)) dX9_isStuck_20 rfl (by decide) ?_
      refine g_goto (q := 25) dX9_isStuck_21 (by decide) ?_
      exact g_zret dX9_isStuck_25 rfl rfl ⟨by rw [decide_eq_true (show ls ≤ 500 by omega)]; rfl, N, _, F, v, mv, _, hB, hN⟩
