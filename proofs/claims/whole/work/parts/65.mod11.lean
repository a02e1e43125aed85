/-! the reference: what throws, what is read -/
def m_bad (v : Int32) (m : Nat) : Bool := decide (v < 0 ∨ nI m - nI 1 < v)
theorem m_bad0 {k m : Nat} (h : k < m) (hm : m < 2 ^ 31) : (if nI k < nI 0 then (0 : Int32) else if nI m - nI 1 < nI k then 0 else 1) = nI 1 := by
  have e : nI m - nI 1 = nI (m - 1) := bz_subI (by omega)
  have h1 : ¬ nI k < nI 0 := nI_pos (by omega)
  have h2 : ¬ nI (m - 1) < nI k := by
    rw [Int32.lt_iff_toInt_lt, nI_toInt (by omega), nI_toInt (by omega)]; omega
  rw [if_neg h1, e, if_neg h2]; rfl
theorem m_bad1 {v : Int32} {m : Nat} (h : m_bad v m = true) : (if v < nI 0 then (0 : Int32) else if nI m - nI 1 < v then 0 else 1) = nI 0 := by
  rcases of_decide_eq_true h with h | h
  · exact if_pos h
  · by_cases c : v < nI 0
    · exact if_pos c
    · rw [if_neg c, if_pos h]; rfl
theorem m_badE {v : Int32} {m : Nat} (hm : m < 2 ^ 31) (h : m_bad v m = false) : ∃ k, k < m ∧ v = nI k := by
  have h := of_decide_eq_false h
  obtain ⟨j, hj, rfl⟩ := nI_of (x := v) (fun e => h (Or.inl e))
  refine ⟨j, ?_, rfl⟩
  rcases Nat.lt_or_ge j m with c | c
  · exact c
  · refine absurd (Or.inr ?_) h
    rcases Nat.eq_zero_or_pos m with hz | hz
    · subst hz
      rw [Int32.lt_iff_toInt_lt, nI_toInt hj]
      have : (nI 0 - nI 1 : Int32).toInt = -1 := by decide
      omega
    · have e : nI m - nI 1 = nI (m - 1) := bz_subI (by omega)
      rw [e, Int32.lt_iff_toInt_lt, nI_toInt (by omega), nI_toInt hj]; omega
theorem m_badN {k m : Nat} (h : m ≤ k) (hk : k < 2 ^ 31) : m_bad (nI k) m = true := by
  cases e : m_bad (nI k) m with
  | true => rfl
  | false =>
    obtain ⟨j, hj, e2⟩ := m_badE (by omega) e
    have := congrArg Int32.toInt e2
    rw [nI_toInt hk, nI_toInt (by omega)] at this
    omega

set_option maxRecDepth 20000 in
set_option maxHeartbeats 1000000 in
theorem c_mthrowsIf1 {l : Launch} {E : bz_E} {L : List Nat} {g : Nat → va_E} {o : Nat} {I : Nat → Int32} {A : Nat → Nat → Int32} {k : Nat} (h0 : I 0 = nI 0) (hk : 1 ≤ k ∧ k < 100) (hH : bz_H L g o (b_Mod E o I A)) : bz_K l E mX9_throwsIf 0 [.ref o, .int (nI 1), .int (nI k)] L g (fun r g1 => r = some (.int (nI 1)) ∧ bz_B L g g1 [(o, b_Mod E o (va_up I 0 (nI k)) A)]) := by
  refine bz_K.of (by decide) (bz_le rfl) (fun sz => ?_)
  have hB := bz_B.rf (bz_W.one hH)
  show bz_G _ _ _ _ _ _ _ _ _ _ _ _ 0 [(0, .ref o), (1, .int (nI 1)), (2, .int (nI k))] []
  refine g_aload_n (q := 1) dX9_throwsIf_0 rfl rfl ?_
  refine gb_getf (q := 4) (j := 0) (i := 0) dX9_throwsIf_1 rfl fl_X9_70 hB rfl rfl rfl rfl ?_
  refine g_eqi (v := nI (0)) (h0) ?_
  refine g_ifN_ne (q := 7) (t := 16) dX9_throwsIf_4 rfl (by decide) (by omega) (fun c => absurd c (by omega)) (fun _ => ?_)
  refine g_iload_n (q := 8) dX9_throwsIf_7 rfl rfl ?_
  refine g_ifN_eq (q := 11) (t := 16) dX9_throwsIf_8 rfl (by decide) (by omega) (fun c => absurd c (by omega)) (fun _ => ?_)
  refine g_aload_n (q := 12) dX9_throwsIf_11 rfl rfl ?_
  refine g_iload_n (q := 13) dX9_throwsIf_12 rfl rfl ?_
  refine gb_putf (q := 16) (j := 0) (i := 0) dX9_throwsIf_13 rfl fp_X9_70 hB rfl rfl rfl (bz_le rfl) rfl rfl (fun g hB => ?_)
  refine g_aload_n (q := 17) dX9_throwsIf_16 rfl rfl ?_
  refine gb_getf (q := 20) (j := 0) (i := 0) dX9_throwsIf_17 rfl fl_X9_70 hB rfl rfl rfl rfl ?_
  refine g_eqi (v := nI (k)) (rfl) ?_
  refine g_ifN_le (q := 23) (t := 27) dX9_throwsIf_20 rfl (by decide) (by omega) (fun c => absurd c (by omega)) (fun _ => ?_)
  refine g_iconst (q := 24) (v := (nI 1)) dX9_throwsIf_23 rfl (by decide) ?_
  refine g_goto (q := 28) dX9_throwsIf_24 (by decide) ?_
  exact g_zret dX9_throwsIf_28 rfl rfl ⟨rfl, hB⟩
set_option maxRecDepth 20000 in
set_option maxHeartbeats 1000000 in
theorem c_mthrowsIf0 {l : Launch} {E : bz_E} {L : List Nat} {g : Nat → va_E} {o : Nat} {I : Nat → Int32} {A : Nat → Nat → Int32} {k : Nat} (h0 : I 0 = nI 0) (hH : bz_H L g o (b_Mod E o I A)) : bz_K l E mX9_throwsIf 0 [.ref o, .int (nI 0), .int (nI k)] L g (fun r g1 => r = some (.int (nI 0)) ∧ g1 = g) := by
  refine bz_K.of (by decide) (bz_le rfl) (fun sz => ?_)
  have hB := bz_B.rf (bz_W.one hH)
  show bz_G _ _ _ _ _ _ _ _ _ _ _ _ 0 [(0, .ref o), (1, .int (nI 0)), (2, .int (nI k))] []
  refine g_aload_n (q := 1) dX9_throwsIf_0 rfl rfl ?_
  refine gb_getf (q := 4) (j := 0) (i := 0) dX9_throwsIf_1 rfl fl_X9_70 hB rfl rfl rfl rfl ?_
  refine g_eqi (v := nI (0)) (h0) ?_
  refine g_ifN_ne (q := 7) (t := 16) dX9_throwsIf_4 rfl (by decide) (by omega) (fun c => absurd c (by omega)) (fun _ => ?_)
  refine g_iload_n (q := 8) dX9_throwsIf_7 rfl rfl ?_
  refine g_ifN_eq (q := 11) (t := 16) dX9_throwsIf_8 rfl (by decide) (by omega) (fun _ => ?_) (fun c => absurd c (by omega))
  refine g_aload_n (q := 17) dX9_throwsIf_16 rfl rfl ?_
  refine gb_getf (q := 20) (j := 0) (i := 0) dX9_throwsIf_17 rfl fl_X9_70 hB rfl rfl rfl rfl ?_
  refine g_eqi (v := nI (0)) (h0) ?_
  refine g_ifN_le (q := 23) (t := 27) dX9_throwsIf_20 rfl (by decide) (by omega) (fun _ => ?_) (fun c => absurd c (by omega))
  refine g_iconst (q := 28) (v := (nI 0)) dX9_throwsIf_27 rfl (by decide) ?_
  exact g_zret dX9_throwsIf_28 rfl rfl ⟨rfl, rfl⟩
set_option maxRecDepth 20000 in
set_option maxHeartbeats 1000000 in
theorem c_mno1 {l : Launch} {E : bz_E} {L : List Nat} {g : Nat → va_E} {o : Nat} {I : Nat → Int32} {A : Nat → Nat → Int32} {v : Int32} {m : Nat} (hb : m_bad v m = true) (h0 : I 0 = nI 0) (hH : bz_H L g o (b_Mod E o I A)) : bz_K l E mX9_no 1 [.ref o, .int v, .int (nI m)] L g (fun r g1 => r = some (.int (nI 1)) ∧ bz_B L g g1 [(o, b_Mod E o (va_up I 0 (nI 1)) A)]) := by
  refine bz_K.of (by decide) (bz_le rfl) (fun sz => ?_)
  have hB := bz_B.rf (bz_W.one hH)
  show bz_G _ _ _ _ _ _ _ _ _ _ _ _ 0 [(0, .ref o), (1, .int v), (2, .int (nI m))] []
  refine g_aload_n (q := 1) dX9_no_0 rfl rfl ?_
  refine g_iload_n (q := 2) dX9_no_1 rfl rfl ?_
  refine g_iconst (q := 3) (v := 0) dX9_no_2 rfl (by decide) ?_
  refine g_iload_n (q := 4) dX9_no_3 rfl rfl ?_
  refine g_iconst (q := 5) (v := 1) dX9_no_4 rfl (by decide) ?_
  refine g_isub (q := 6) dX9_no_5 rfl ?_
  refine g_callS (q := 9) dX9_no_6 rfl ks_X9_114 rfl (c_mwithin) (by decide) rfl (bz_le rfl) (by decide) (by decide) (fun r g1 hQ => ?_)
  obtain ⟨rfl, hg⟩ := hQ
  have hg := hg.symm
  subst hg
  refine g_eqi (v := nI (0)) (m_bad1 hb) ?_
  refine g_ifN_ne (q := 12) (t := 16) dX9_no_9 rfl (by decide) (by omega) (fun c => absurd c (by omega)) (fun _ => ?_)
  refine g_iconst (q := 13) (v := 1) dX9_no_12 rfl (by decide) ?_
  refine g_goto (q := 17) dX9_no_13 (by decide) ?_
  refine g_iconst (q := 18) (v := 1) dX9_no_17 rfl (by decide) ?_
  refine gb_callV (q := 21) (j := 0) (i := 0) dX9_no_18 rfl kv_X9_210 (c_mthrowsIf1 (k := 1) h0 (by decide) (hB.1.at (j := 0) rfl)) rfl (by decide) hB rfl rfl rfl rfl (bz_le rfl) (by decide) (by decide) (fun r g1 hQ => ?_)
  obtain ⟨rfl, h1⟩ := hQ
  have hB := hB.sp (j := 0) rfl 0 rfl h1 (bz_le rfl)
  exact g_zret dX9_no_21 rfl rfl ⟨rfl, hB⟩
set_option maxRecDepth 20000 in
set_option maxHeartbeats 1000000 in
theorem c_mnoSide1 {l : Launch} {E : bz_E} {L : List Nat} {g : Nat → va_E} {o : Nat} {I : Nat → Int32} {A : Nat → Nat → Int32} {v : Int32} (hb : m_bad v 2 = true) (hH : bz_H L g o (b_Mod E o I A)) : bz_K l E mX9_noSide 2 [.ref o, .int v] L g (fun r g1 => r = some (.int (nI 1)) ∧ bz_B L g g1 [(o, b_Mod E o (va_up I 0 (nI 1)) A)]) := by
  refine bz_K.of (by decide) (bz_le rfl) (fun sz => ?_)
  have hB := bz_B.rf (bz_W.one hH)
  show bz_G _ _ _ _ _ _ _ _ _ _ _ _ 0 [(0, .ref o), (1, .int v)] []
  refine g_aload_n (q := 1) dX9_noSide_0 rfl rfl ?_
  refine g_iconst (q := 2) (v := (nI 0)) dX9_noSide_1 rfl (by decide) ?_
  refine gb_putf (q := 5) (j := 0) (i := 0) dX9_noSide_2 rfl fp_X9_70 hB rfl rfl rfl (bz_le rfl) rfl rfl (fun g hB => ?_)
  refine g_aload_n (q := 6) dX9_noSide_5 rfl rfl ?_
  refine g_iload_n (q := 7) dX9_noSide_6 rfl rfl ?_
  refine g_iconst (q := 8) (v := (nI 2)) dX9_noSide_7 rfl (by decide) ?_
  refine gb_callV (q := 11) (j := 0) (i := 0) dX9_noSide_8 rfl kv_X9_220 (c_mno1 (I := va_up I 0 (nI 0)) hb rfl (hB.1.at (j := 0) rfl)) rfl (by decide) hB rfl rfl rfl rfl (bz_le rfl) (by decide) (by decide) (fun r g1 hQ => ?_)
  obtain ⟨rfl, h1⟩ := hQ
  have hB := hB.sp (j := 0) rfl 0 rfl h1 (bz_le rfl)
  exact g_zret dX9_noSide_11 rfl rfl ⟨rfl, hB⟩
set_option maxRecDepth 20000 in
set_option maxHeartbeats 1000000 in
theorem c_mno0 {l : Launch} {E : bz_E} {L : List Nat} {g : Nat → va_E} {o : Nat} {I : Nat → Int32} {A : Nat → Nat → Int32} {k m : Nat} (hv : k < m) (hm : m < 2 ^ 31) (h0 : I 0 = nI 0) (hH : bz_H L g o (b_Mod E o I A)) : bz_K l E mX9_no 1 [.ref o, .int (nI k), .int (nI m)] L g (fun r g1 => r = some (.int (nI 0)) ∧ g1 = g) := by
  refine bz_K.of (by decide) (bz_le rfl) (fun sz => ?_)
  have hB := bz_B.rf (bz_W.one hH)
  show bz_G _ _ _ _ _ _ _ _ _ _ _ _ 0 [(0, .ref o), (1, .int (nI k)), (2, .int (nI m))] []
  refine g_aload_n (q := 1) dX9_no_0 rfl rfl ?_
  refine g_iload_n (q := 2) dX9_no_1 rfl rfl ?_
  refine g_iconst (q := 3) (v := 0) dX9_no_2 rfl (by decide) ?_
  refine g_iload_n (q := 4) dX9_no_3 rfl rfl ?_
  refine g_iconst (q := 5) (v := 1) dX9_no_4 rfl (by decide) ?_
  refine g_isub (q := 6) dX9_no_5 rfl ?_
  refine g_callS (q := 9) dX9_no_6 rfl ks_X9_114 rfl (c_mwithin) (by decide) rfl (bz_le rfl) (by decide) (by decide) (fun r g1 hQ => ?_)
  obtain ⟨rfl, hg⟩ := hQ
  have hg := hg.symm
  subst hg
  refine g_eqi (v := nI (1)) (m_bad0 hv hm) ?_
  refine g_ifN_ne (q := 12) (t := 16) dX9_no_9 rfl (by decide) (by omega) (fun _ => ?_) (fun c => absurd c (by omega))
  refine g_iconst (q := 17) (v := 0) dX9_no_16 rfl (by decide) ?_
  refine g_iconst (q := 18) (v := 1) dX9_no_17 rfl (by decide) ?_
  refine gb_callV (q := 21) (j := 0) (i := 0) dX9_no_18 rfl kv_X9_210 (c_mthrowsIf0 (k := 1) h0 (hB.1.at (j := 0) rfl)) rfl (by decide) hB rfl rfl rfl rfl (bz_le rfl) (by decide) (by decide) (fun r g1 hQ => ?_)
  obtain ⟨rfl, hg⟩ := hQ
  have hg := hg.symm
  subst hg
  exact g_zret dX9_no_21 rfl rfl ⟨rfl, rfl⟩
set_option maxRecDepth 20000 in
set_option maxHeartbeats 1000000 in
theorem c_mnoSide0 {l : Launch} {E : bz_E} {L : List Nat} {g : Nat → va_E} {o : Nat} {I : Nat → Int32} {A : Nat → Nat → Int32} {s : Nat} (hs : s < 2) (hH : bz_H L g o (b_Mod E o I A)) : bz_K l E mX9_noSide 2 [.ref o, .int (nI s)] L g (fun r g1 => r = some (.int (nI 0)) ∧ bz_B L g g1 [(o, b_Mod E o (va_up I 0 (nI 0)) A)]) := by
  refine bz_K.of (by decide) (bz_le rfl) (fun sz => ?_)
  have hB := bz_B.rf (bz_W.one hH)
  show bz_G _ _ _ _ _ _ _ _ _ _ _ _ 0 [(0, .ref o), (1, .int (nI s))] []
  refine g_aload_n (q := 1) dX9_noSide_0 rfl rfl ?_
  refine g_iconst (q := 2) (v := (nI 0)) dX9_noSide_1 rfl (by decide) ?_
  refine gb_putf (q := 5) (j := 0) (i := 0) dX9_noSide_2 rfl fp_X9_70 hB rfl rfl rfl (bz_le rfl) rfl rfl (fun g hB => ?_)
  refine g_aload_n (q := 6) dX9_noSide_5 rfl rfl ?_
  refine g_iload_n (q := 7) dX9_noSide_6 rfl rfl ?_
  refine g_iconst (q := 8) (v := (nI 2)) dX9_noSide_7 rfl (by decide) ?_
  refine gb_callV (q := 11) (j := 0) (i := 0) dX9_noSide_8 rfl kv_X9_220 (c_mno0 (I := va_up I 0 (nI 0)) hs (by decide) rfl (hB.1.at (j := 0) rfl)) rfl (by decide) hB rfl rfl rfl rfl (bz_le rfl) (by decide) (by decide) (fun r g1 hQ => ?_)
  obtain ⟨rfl, hg⟩ := hQ
  have hg := hg.symm
  subst hg
  exact g_zret dX9_noSide_11 rfl rfl ⟨rfl, hB⟩
set_option maxRecDepth 20000 in
set_option maxHeartbeats 1000000 in
theorem c_mnoPosition2 {l : Launch} {E : bz_E} {L : List Nat} {g : Nat → va_E} {o : Nat} {I : Nat → Int32} {A : Nat → Nat → Int32} {v w : Int32} (hb : m_bad v 2 = true) (hH : bz_H L g o (b_Mod E o I A)) : bz_K l E mX9_noPosition 3 [.ref o, .int v, .int w] L g (fun r g1 => r = some (.int (nI 1)) ∧ bz_B L g g1 [(o, b_Mod E o (va_up I 0 (nI 1)) A)]) := by
  refine bz_K.of (by decide) (bz_le rfl) (fun sz => ?_)
  have hB := bz_B.rf (bz_W.one hH)
  show bz_G _ _ _ _ _ _ _ _ _ _ _ _ 0 [(0, .ref o), (1, .int v), (2, .int w)] []
  refine g_aload_n (q := 1) dX9_noPosition_0 rfl rfl ?_
  refine g_iload_n (q := 2) dX9_noPosition_1 rfl rfl ?_
  refine gb_callV (q := 5) (j := 0) (i := 0) dX9_noPosition_2 rfl kv_X9_227 (c_mnoSide1 hb (hB.1.at (j := 0) rfl)) rfl (by decide) hB rfl rfl rfl rfl (bz_le rfl) (by decide) (by decide) (fun r g1 hQ => ?_)
  obtain ⟨rfl, h1⟩ := hQ
  have hB := hB.sp (j := 0) rfl 0 rfl h1 (bz_le rfl)
  refine g_ifN_ne (q := 8) (t := 24) dX9_noPosition_5 rfl (by decide) (by omega) (fun _ => ?_) (fun c => absurd c (by omega))
  refine g_iconst (q := 25) (v := (nI 1)) dX9_noPosition_24 rfl (by decide) ?_
  refine g_goto (q := 29) dX9_noPosition_25 (by decide) ?_
  exact g_zret dX9_noPosition_29 rfl rfl ⟨rfl, hB⟩
set_option maxRecDepth 20000 in
set_option maxHeartbeats 1000000 in
theorem c_mnoPosition1 {l : Launch} {E : bz_E} {L : List Nat} {g : Nat → va_E} {o : Nat} {I : Nat → Int32} {A : Nat → Nat → Int32} {s m : Nat} {v : Int32} (hs : s < 2) (hr : A 1 (1 + s) = nI m) (hb : m_bad v m = true) (hH : bz_H L g o (b_Mod E o I A)) : bz_K l E mX9_noPosition 3 [.ref o, .int (nI s), .int v] L g (fun r g1 => r = some (.int (nI 1)) ∧ bz_B L g g1 [(o, b_Mod E o (va_up I 0 (nI 1)) A)]) := by
  refine bz_K.of (by decide) (bz_le rfl) (fun sz => ?_)
  have hB := bz_B.rf (bz_W.one hH)
  show bz_G _ _ _ _ _ _ _ _ _ _ _ _ 0 [(0, .ref o), (1, .int (nI s)), (2, .int v)] []
  refine g_aload_n (q := 1) dX9_noPosition_0 rfl rfl ?_
  refine g_iload_n (q := 2) dX9_noPosition_1 rfl rfl ?_
  refine gb_callV (q := 5) (j := 0) (i := 0) dX9_noPosition_2 rfl kv_X9_227 (c_mnoSide0 hs (hB.1.at (j := 0) rfl)) rfl (by decide) hB rfl rfl rfl rfl (bz_le rfl) (by decide) (by decide) (fun r g1 hQ => ?_)
  obtain ⟨rfl, h1⟩ := hQ
  have hB := hB.sp (j := 0) rfl 0 rfl h1 (bz_le rfl)
  refine g_ifN_ne (q := 8) (t := 24) dX9_noPosition_5 rfl (by decide) (by omega) (fun c => absurd c (by omega)) (fun _ => ?_)
  refine g_aload_n (q := 9) dX9_noPosition_8 rfl rfl ?_
  refine g_iload_n (q := 10) dX9_noPosition_9 rfl rfl ?_
  refine g_aload_n (q := 11) dX9_noPosition_10 rfl rfl ?_
  refine gb_getf (q := 14) (j := 0) (i := 0) dX9_noPosition_11 rfl fl_X9_7 hB rfl rfl rfl rfl ?_
  refine g_iconst (q := 15) (v := (nI 1)) dX9_noPosition_14 rfl (by decide) ?_
  refine g_iload_n (q := 16) dX9_noPosition_15 rfl rfl ?_
  refine g_iaddN (q := 17) dX9_noPosition_16 rfl ?_
  refine gb_ialdN (q := 18) (j := 0) (i := 1) dX9_noPosition_17 rfl hB rfl rfl rfl (by omega) (by decide) ?_
  refine g_eqi (v := nI (m)) (hr) ?_
  refine gb_callV (q := 21) (j := 0) (i := 0) dX9_noPosition_18 rfl kv_X9_220 (c_mno1 (I := va_up I 0 (nI 0)) (A := A) hb rfl (hB.1.at (j := 0) rfl)) rfl (by decide) hB rfl rfl rfl rfl (bz_le rfl) (by decide) (by decide) (fun r g1 hQ => ?_)
  obtain ⟨rfl, h1⟩ := hQ
  have hB := hB.sp (j := 0) rfl 0 rfl h1 (bz_le rfl)
  refine g_ifN_eq (q := 24) (t := 28) dX9_noPosition_21 rfl (by decide) (by omega) (fun c => absurd c (by omega)) (fun _ => ?_)
  refine g_iconst (q := 25) (v := (nI 1)) dX9_noPosition_24 rfl (by decide) ?_
  refine g_goto (q := 29) dX9_noPosition_25 (by decide) ?_
  exact g_zret dX9_noPosition_29 rfl rfl ⟨rfl, hB⟩
set_option maxRecDepth 20000 in
set_option maxHeartbeats 1000000 in
theorem c_mnoPosition0 {l : Launch} {E : bz_E} {L : List Nat} {g : Nat → va_E} {o : Nat} {I : Nat → Int32} {A : Nat → Nat → Int32} {s m : Nat} {k : Nat} (hs : s < 2) (hr : A 1 (1 + s) = nI m) (hk : k < m) (hm : m < 2 ^ 31) (hH : bz_H L g o (b_Mod E o I A)) : bz_K l E mX9_noPosition 3 [.ref o, .int (nI s), .int (nI k)] L g (fun r g1 => r = some (.int (nI 0)) ∧ bz_B L g g1 [(o, b_Mod E o (va_up I 0 (nI 0)) A)]) := by
  refine bz_K.of (by decide) (bz_le rfl) (fun sz => ?_)
  have hB := bz_B.rf (bz_W.one hH)
  show bz_G _ _ _ _ _ _ _ _ _ _ _ _ 0 [(0, .ref o), (1, .int (nI s)), (2, .int (nI k))] []
  refine g_aload_n (q := 1) dX9_noPosition_0 rfl rfl ?_
  refine g_iload_n (q := 2) dX9_noPosition_1 rfl rfl ?_
  refine gb_callV (q := 5) (j := 0) (i := 0) dX9_noPosition_2 rfl kv_X9_227 (c_mnoSide0 hs (hB.1.at (j := 0) rfl)) rfl (by decide) hB rfl rfl rfl rfl (bz_le rfl) (by decide) (by decide) (fun r g1 hQ => ?_)
  obtain ⟨rfl, h1⟩ := hQ
  have hB := hB.sp (j := 0) rfl 0 rfl h1 (bz_le rfl)
  refine g_ifN_ne (q := 8) (t := 24) dX9_noPosition_5 rfl (by decide) (by omega) (fun c => absurd c (by omega)) (fun _ => ?_)
  refine g_aload_n (q := 9) dX9_noPosition_8 rfl rfl ?_
  refine g_iload_n (q := 10) dX9_noPosition_9 rfl rfl ?_
  refine g_aload_n (q := 11) dX9_noPosition_10 rfl rfl ?_
  refine gb_getf (q := 14) (j := 0) (i := 0) dX9_noPosition_11 rfl fl_X9_7 hB rfl rfl rfl rfl ?_
  refine g_iconst (q := 15) (v := (nI 1)) dX9_noPosition_14 rfl (by decide) ?_
  refine g_iload_n (q := 16) dX9_noPosition_15 rfl rfl ?_
  refine g_iaddN (q := 17) dX9_noPosition_16 rfl ?_
  refine gb_ialdN (q := 18) (j := 0) (i := 1) dX9_noPosition_17 rfl hB rfl rfl rfl (by omega) (by decide) ?_
  refine g_eqi (v := nI (m)) (hr) ?_
  refine gb_callV (q := 21) (j := 0) (i := 0) dX9_noPosition_18 rfl kv_X9_220 (c_mno0 (I := va_up I 0 (nI 0)) (A := A) hk hm rfl (hB.1.at (j := 0) rfl)) rfl (by decide) hB rfl rfl rfl rfl (bz_le rfl) (by decide) (by decide) (fun r g1 hQ => ?_)
  obtain ⟨rfl, hg⟩ := hQ
  have hg := hg.symm
  subst hg
  refine g_ifN_eq (q := 24) (t := 28) dX9_noPosition_21 rfl (by decide) (by omega) (fun _ => ?_) (fun c => absurd c (by omega))
  refine g_iconst (q := 29) (v := (nI 0)) dX9_noPosition_28 rfl (by decide) ?_
  exact g_zret dX9_noPosition_29 rfl rfl ⟨rfl, hB⟩
set_option maxRecDepth 20000 in
set_option maxHeartbeats 1000000 in
theorem c_mnoTag2 {l : Launch} {E : bz_E} {L : List Nat} {g : Nat → va_E} {o : Nat} {I : Nat → Int32} {A : Nat → Nat → Int32} {v w : Int32} (hb : m_bad v 2 = true) (hH : bz_H L g o (b_Mod E o I A)) : bz_K l E mX9_noTag 3 [.ref o, .int v, .int w] L g (fun r g1 => r = some (.int (nI 1)) ∧ bz_B L g g1 [(o, b_Mod E o (va_up I 0 (nI 1)) A)]) := by
  refine bz_K.of (by decide) (bz_le rfl) (fun sz => ?_)
  have hB := bz_B.rf (bz_W.one hH)
  show bz_G _ _ _ _ _ _ _ _ _ _ _ _ 0 [(0, .ref o), (1, .int v), (2, .int w)] []
  refine g_aload_n (q := 1) dX9_noTag_0 rfl rfl ?_
  refine g_iload_n (q := 2) dX9_noTag_1 rfl rfl ?_
  refine gb_callV (q := 5) (j := 0) (i := 0) dX9_noTag_2 rfl kv_X9_227 (c_mnoSide1 hb (hB.1.at (j := 0) rfl)) rfl (by decide) hB rfl rfl rfl rfl (bz_le rfl) (by decide) (by decide) (fun r g1 hQ => ?_)
  obtain ⟨rfl, h1⟩ := hQ
  have hB := hB.sp (j := 0) rfl 0 rfl h1 (bz_le rfl)
  refine g_ifN_ne (q := 8) (t := 22) dX9_noTag_5 rfl (by decide) (by omega) (fun _ => ?_) (fun c => absurd c (by omega))
  refine g_iconst (q := 23) (v := (nI 1)) dX9_noTag_22 rfl (by decide) ?_
  refine g_goto (q := 27) dX9_noTag_23 (by decide) ?_
  exact g_zret dX9_noTag_27 rfl rfl ⟨rfl, hB⟩
set_option maxRecDepth 20000 in
set_option maxHeartbeats 1000000 in
theorem c_mnoTag1 {l : Launch} {E : bz_E} {L : List Nat} {g : Nat → va_E} {o : Nat} {I : Nat → Int32} {A : Nat → Nat → Int32} {s m : Nat} {v : Int32} (hs : s < 2) (hr : A 6 1 = nI m) (hb : m_bad v m = true) (hH : bz_H L g o (b_Mod E o I A)) : bz_K l E mX9_noTag 3 [.ref o, .int (nI s), .int v] L g (fun r g1 => r = some (.int (nI 1)) ∧ bz_B L g g1 [(o, b_Mod E o (va_up I 0 (nI 1)) A)]) := by
  refine bz_K.of (by decide) (bz_le rfl) (fun sz => ?_)
  have hB := bz_B.rf (bz_W.one hH)
  show bz_G _ _ _ _ _ _ _ _ _ _ _ _ 0 [(0, .ref o), (1, .int (nI s)), (2, .int v)] []
  refine g_aload_n (q := 1) dX9_noTag_0 rfl rfl ?_
  refine g_iload_n (q := 2) dX9_noTag_1 rfl rfl ?_
  refine gb_callV (q := 5) (j := 0) (i := 0) dX9_noTag_2 rfl kv_X9_227 (c_mnoSide0 hs (hB.1.at (j := 0) rfl)) rfl (by decide) hB rfl rfl rfl rfl (bz_le rfl) (by decide) (by decide) (fun r g1 hQ => ?_)
  obtain ⟨rfl, h1⟩ := hQ
  have hB := hB.sp (j := 0) rfl 0 rfl h1 (bz_le rfl)
  refine g_ifN_ne (q := 8) (t := 22) dX9_noTag_5 rfl (by decide) (by omega) (fun c => absurd c (by omega)) (fun _ => ?_)
  refine g_aload_n (q := 9) dX9_noTag_8 rfl rfl ?_
  refine g_iload_n (q := 10) dX9_noTag_9 rfl rfl ?_
  refine g_aload_n (q := 11) dX9_noTag_10 rfl rfl ?_
  refine gb_getf (q := 14) (j := 0) (i := 0) dX9_noTag_11 rfl fl_X9_25 hB rfl rfl rfl rfl ?_
  refine g_iconst (q := 15) (v := (nI 1)) dX9_noTag_14 rfl (by decide) ?_
  refine gb_ialdN (q := 16) (j := 0) (i := 6) dX9_noTag_15 rfl hB rfl rfl rfl (by omega) (by decide) ?_
  refine g_eqi (v := nI (m)) (hr) ?_
  refine gb_callV (q := 19) (j := 0) (i := 0) dX9_noTag_16 rfl kv_X9_220 (c_mno1 (I := va_up I 0 (nI 0)) (A := A) hb rfl (hB.1.at (j := 0) rfl)) rfl (by decide) hB rfl rfl rfl rfl (bz_le rfl) (by decide) (by decide) (fun r g1 hQ => ?_)
  obtain ⟨rfl, h1⟩ := hQ
  have hB := hB.sp (j := 0) rfl 0 rfl h1 (bz_le rfl)
  refine g_ifN_eq (q := 22) (t := 26) dX9_noTag_19 rfl (by decide) (by omega) (fun c => absurd c (by omega)) (fun _ => ?_)
  refine g_iconst (q := 23) (v := (nI 1)) dX9_noTag_22 rfl (by decide) ?_
  refine g_goto (q := 27) dX9_noTag_23 (by decide) ?_
  exact g_zret dX9_noTag_27 rfl rfl ⟨rfl, hB⟩
set_option maxRecDepth 20000 in
set_option maxHeartbeats 1000000 in
theorem c_mnoTag0 {l : Launch} {E : bz_E} {L : List Nat} {g : Nat → va_E} {o : Nat} {I : Nat → Int32} {A : Nat → Nat → Int32} {s m : Nat} {k : Nat} (hs : s < 2) (hr : A 6 1 = nI m) (hk : k < m) (hm : m < 2 ^ 31) (hH : bz_H L g o (b_Mod E o I A)) : bz_K l E mX9_noTag 3 [.ref o, .int (nI s), .int (nI k)] L g (fun r g1 => r = some (.int (nI 0)) ∧ bz_B L g g1 [(o, b_Mod E o (va_up I 0 (nI 0)) A)]) := by
  refine bz_K.of (by decide) (bz_le rfl) (fun sz => ?_)
  have hB := bz_B.rf (bz_W.one hH)
  show bz_G _ _ _ _ _ _ _ _ _ _ _ _ 0 [(0, .ref o), (1, .int (nI s)), (2, .int (nI k))] []
  refine g_aload_n (q := 1) dX9_noTag_0 rfl rfl ?_
  refine g_iload_n (q := 2) dX9_noTag_1 rfl rfl ?_
  refine gb_callV (q := 5) (j := 0) (i := 0) dX9_noTag_2 rfl kv_X9_227 (c_mnoSide0 hs (hB.1.at (j := 0) rfl)) rfl (by decide) hB rfl rfl rfl rfl (bz_le rfl) (by decide) (by decide) (fun r g1 hQ => ?_)
  obtain ⟨rfl, h1⟩ := hQ
  have hB := hB.sp (j := 0) rfl 0 rfl h1 (bz_le rfl)
  refine g_ifN_ne (q := 8) (t := 22) dX9_noTag_5 rfl (by decide) (by omega) (fun c => absurd c (by omega)) (fun _ => ?_)
  refine g_aload_n (q := 9) dX9_noTag_8 rfl rfl ?_
  refine g_iload_n (q := 10) dX9_noTag_9 rfl rfl ?_
  refine g_aload_n (q := 11) dX9_noTag_10 rfl rfl ?_
  refine gb_getf (q := 14) (j := 0) (i := 0) dX9_noTag_11 rfl fl_X9_25 hB rfl rfl rfl rfl ?_
  refine g_iconst (q := 15) (v := (nI 1)) dX9_noTag_14 rfl (by decide) ?_
  refine gb_ialdN (q := 16) (j := 0) (i := 6) dX9_noTag_15 rfl hB rfl rfl rfl (by omega) (by decide) ?_
  refine g_eqi (v := nI (m)) (hr) ?_
  refine gb_callV (q := 19) (j := 0) (i := 0) dX9_noTag_16 rfl kv_X9_220 (c_mno0 (I := va_up I 0 (nI 0)) (A := A) hk hm rfl (hB.1.at (j := 0) rfl)) rfl (by decide) hB rfl rfl rfl rfl (bz_le rfl) (by decide) (by decide) (fun r g1 hQ => ?_)
  obtain ⟨rfl, hg⟩ := hQ
  have hg := hg.symm
  subst hg
  refine g_ifN_eq (q := 22) (t := 26) dX9_noTag_19 rfl (by decide) (by omega) (fun _ => ?_) (fun c => absurd c (by omega))
  refine g_iconst (q := 27) (v := (nI 0)) dX9_noTag_26 rfl (by decide) ?_
  exact g_zret dX9_noTag_27 rfl rfl ⟨rfl, hB⟩
