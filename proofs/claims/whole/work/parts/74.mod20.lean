/-! the reference: post, read, configure, release: the methods, second part -/

set_option maxRecDepth 20000 in
set_option maxHeartbeats 1000000 in
theorem c_mpost3 {l : Launch} {E : bz_E} {L : List Nat} {g : Nat → va_E} {o : Nat} {I : Nat → Int32} {A : Nat → Nat → Int32} {u a w v rx1 : Int32} (hb : m_bad u 2 = true) (hH : bz_H L g o (b_Mod E o I A)) : bz_K l E mX9_post 3 [.ref o, .int u, .int a, .int w, .int v, .int rx1] L g (fun r g1 => r = some (.int (nI 0)) ∧ bz_B L g g1 [(o, b_Mod E o (va_up I 0 (nI 1)) A)]) := by
  refine bz_K.of (by decide) (bz_le rfl) (fun sz => ?_)
  have hB := bz_B.rf (bz_W.one hH)
  show bz_G _ _ _ _ _ _ _ _ _ _ _ _ 0 [(0, .ref o), (1, .int u), (2, .int a), (3, .int w), (4, .int v), (5, .int rx1)] []
  refine g_aload_n (q := 1) dX9_post_0 rfl rfl ?_
  refine g_iload_n (q := 2) dX9_post_1 rfl rfl ?_
  refine gb_callV (q := 5) (j := 0) (i := 0) dX9_post_2 rfl kv_X9_227 (c_mnoSide1 hb (hB.1.at (j := 0) rfl)) rfl (by decide) hB rfl rfl rfl rfl (bz_le rfl) (by decide) (by decide) (fun r g1 hQ => ?_)
  obtain ⟨rfl, h1⟩ := hQ
  have hB := hB.sp (j := 0) rfl 0 rfl h1 (bz_le rfl)
  refine g_ifN_ne (q := 8) (t := 51) dX9_post_5 rfl (by decide) (by omega) (fun _ => ?_) (fun c => absurd c (by omega))
  refine g_iconst (q := 52) (v := (nI 0)) dX9_post_51 rfl (by decide) ?_
  exact g_iret dX9_post_52 rfl (⟨rfl, hB⟩)
set_option maxRecDepth 20000 in
set_option maxHeartbeats 1000000 in
theorem c_mpost2 {l : Launch} {E : bz_E} {L : List Nat} {g : Nat → va_E} {o : Nat} {I : Nat → Int32} {A : Nat → Nat → Int32} {s : Nat} {a w v rx1 : Int32} (hs : s < 2) (hb : m_bad a 16 = true ∨ (if w < nI 1 then (0 : Int32) else if nI 4 < w then 0 else 1) = nI 0 ∨ ∃ x y : Nat, a = nI x ∧ w = nI y ∧ x < 16 ∧ y ≤ 4 ∧ 16 < x + y) (hH : bz_H L g o (b_Mod E o I A)) : bz_K l E mX9_post 3 [.ref o, .int (nI s), .int a, .int w, .int v, .int rx1] L g (fun r g1 => r = some (.int (nI 0)) ∧ bz_B L g g1 [(o, b_Mod E o (va_up I 0 (nI 2)) A)]) := by
  refine bz_K.of (by decide) (bz_le rfl) (fun sz => ?_)
  have hB := bz_B.rf (bz_W.one hH)
  show bz_G _ _ _ _ _ _ _ _ _ _ _ _ 0 [(0, .ref o), (1, .int (nI s)), (2, .int a), (3, .int w), (4, .int v), (5, .int rx1)] []
  refine g_aload_n (q := 1) dX9_post_0 rfl rfl ?_
  refine g_iload_n (q := 2) dX9_post_1 rfl rfl ?_
  refine gb_callV (q := 5) (j := 0) (i := 0) dX9_post_2 rfl kv_X9_227 (c_mnoSide0 hs (hB.1.at (j := 0) rfl)) rfl (by decide) hB rfl rfl rfl rfl (bz_le rfl) (by decide) (by decide) (fun r g1 hQ => ?_)
  obtain ⟨rfl, h1⟩ := hQ
  have hB := hB.sp (j := 0) rfl 0 rfl h1 (bz_le rfl)
  refine g_ifN_ne (q := 8) (t := 51) dX9_post_5 rfl (by decide) (by omega) (fun c => absurd c (by omega)) (fun _ => ?_)
  refine g_aload_n (q := 9) dX9_post_8 rfl rfl ?_
  refine g_iload_n (q := 10) dX9_post_9 rfl rfl ?_
  refine g_iload_n (q := 11) dX9_post_10 rfl rfl ?_
  refine g_callS (q := 14) dX9_post_11 rfl ks_X9_321 rfl (c_misRange1 hb) (by decide) rfl (bz_le rfl) (by decide) (by decide) (fun r g1 hQ => ?_)
  obtain ⟨rfl, hg⟩ := hQ
  have hg := hg.symm
  subst hg
  refine g_ifN_ne (q := 17) (t := 21) dX9_post_14 rfl (by decide) (by omega) (fun c => absurd c (by omega)) (fun _ => ?_)
  refine g_iconst (q := 18) (v := (nI 1)) dX9_post_17 rfl (by decide) ?_
  refine g_goto (q := 22) dX9_post_18 (by decide) ?_
  refine g_iconst (q := 23) (v := (nI 2)) dX9_post_22 rfl (by decide) ?_
  refine gb_callV (q := 26) (j := 0) (i := 0) dX9_post_23 rfl kv_X9_210 (c_mthrowsIf1 (I := va_up I 0 (nI 0)) (A := A) (k := 2) rfl (by decide) (hB.1.at (j := 0) rfl)) rfl (by decide) hB rfl rfl rfl rfl (bz_le rfl) (by decide) (by decide) (fun r g1 hQ => ?_)
  obtain ⟨rfl, h1⟩ := hQ
  have hB := hB.sp (j := 0) rfl 0 rfl h1 (bz_le rfl)
  refine g_ifN_ne (q := 29) (t := 51) dX9_post_26 rfl (by decide) (by omega) (fun _ => ?_) (fun c => absurd c (by omega))
  refine g_iconst (q := 52) (v := (nI 0)) dX9_post_51 rfl (by decide) ?_
  exact g_iret dX9_post_52 rfl (⟨rfl, hB⟩)
set_option maxRecDepth 20000 in
set_option maxHeartbeats 1000000 in
theorem c_mpost1 {l : Launch} {E : bz_E} {L : List Nat} {g : Nat → va_E} {o : Nat} {I : Nat → Int32} {A : Nat → Nat → Int32} {s ad wd z : Nat} {v : Int32} {rx : Bool} {P : Po} (hs : s < 2) (hw : 1 ≤ wd ∧ wd ≤ 4) (ha : ad + wd ≤ 16) (hP : m_sd (A 1) s P) (hz : A 2 (4 * s + 0) = nI z) (hz8 : z ≤ 8) (hcz : s_cnt 0 P.1 ≤ z) (hb : z ≤ s_cnt 0 P.1) (hH : bz_H L g o (b_Mod E o I A)) : bz_K l E mX9_post 3 [.ref o, .int (nI s), .int (nI ad), .int (nI wd), .int v, .int (tB rx)] L g (fun r g1 => r = some (.int (nI 0)) ∧ bz_B L g g1 [(o, b_Mod E o (va_up I 0 (nI 3)) A)]) := by
  refine bz_K.of (by decide) (bz_le rfl) (fun sz => ?_)
  have hB := bz_B.rf (bz_W.one hH)
  show bz_G _ _ _ _ _ _ _ _ _ _ _ _ 0 [(0, .ref o), (1, .int (nI s)), (2, .int (nI ad)), (3, .int (nI wd)), (4, .int v), (5, .int (tB rx))] []
  refine g_aload_n (q := 1) dX9_post_0 rfl rfl ?_
  refine g_iload_n (q := 2) dX9_post_1 rfl rfl ?_
  refine gb_callV (q := 5) (j := 0) (i := 0) dX9_post_2 rfl kv_X9_227 (c_mnoSide0 hs (hB.1.at (j := 0) rfl)) rfl (by decide) hB rfl rfl rfl rfl (bz_le rfl) (by decide) (by decide) (fun r g1 hQ => ?_)
  obtain ⟨rfl, h1⟩ := hQ
  have hB := hB.sp (j := 0) rfl 0 rfl h1 (bz_le rfl)
  refine g_ifN_ne (q := 8) (t := 51) dX9_post_5 rfl (by decide) (by omega) (fun c => absurd c (by omega)) (fun _ => ?_)
  refine g_aload_n (q := 9) dX9_post_8 rfl rfl ?_
  refine g_iload_n (q := 10) dX9_post_9 rfl rfl ?_
  refine g_iload_n (q := 11) dX9_post_10 rfl rfl ?_
  refine g_callS (q := 14) dX9_post_11 rfl ks_X9_321 rfl (c_misRange0 (by omega) hw ha) (by decide) rfl (bz_le rfl) (by decide) (by decide) (fun r g1 hQ => ?_)
  obtain ⟨rfl, hg⟩ := hQ
  have hg := hg.symm
  subst hg
  refine g_ifN_ne (q := 17) (t := 21) dX9_post_14 rfl (by decide) (by omega) (fun _ => ?_) (fun c => absurd c (by omega))
  refine g_iconst (q := 22) (v := (nI 0)) dX9_post_21 rfl (by decide) ?_
  refine g_iconst (q := 23) (v := (nI 2)) dX9_post_22 rfl (by decide) ?_
  refine gb_callV (q := 26) (j := 0) (i := 0) dX9_post_23 rfl kv_X9_210 (c_mthrowsIf0 (I := va_up I 0 (nI 0)) (A := A) (k := 2) rfl (hB.1.at (j := 0) rfl)) rfl (by decide) hB rfl rfl rfl rfl (bz_le rfl) (by decide) (by decide) (fun r g1 hQ => ?_)
  obtain ⟨rfl, hg⟩ := hQ
  have hg := hg.symm
  subst hg
  refine g_ifN_ne (q := 29) (t := 51) dX9_post_26 rfl (by decide) (by omega) (fun c => absurd c (by omega)) (fun _ => ?_)
  refine g_aload_n (q := 30) dX9_post_29 rfl rfl ?_
  refine g_aload_n (q := 31) dX9_post_30 rfl rfl ?_
  refine g_iload_n (q := 32) dX9_post_31 rfl rfl ?_
  refine g_iconst (q := 33) (v := (nI 0)) dX9_post_32 rfl (by decide) ?_
  refine gb_callV (q := 36) (j := 0) (i := 0) dX9_post_33 rfl kv_X9_275 (c_mroom (I := va_up I 0 (nI 0)) (A := A) (P := P) (z := z) hs (by decide) hz hP (hB.1.at (j := 0) rfl)) rfl (by decide) hB rfl rfl rfl rfl (bz_le rfl) (by decide) (by decide) (fun r g1 hQ => ?_)
  obtain ⟨rfl, hg⟩ := hQ
  have hg := hg.symm
  subst hg
  refine g_eqi (v := nI (0)) (by rw [bz_subI hcz]; congr 1; omega) ?_
  refine g_ifN_gt (q := 39) (t := 43) dX9_post_36 rfl (by decide) (by omega) (fun c => absurd c (by omega)) (fun _ => ?_)
  refine g_iconst (q := 40) (v := (nI 1)) dX9_post_39 rfl (by decide) ?_
  refine g_goto (q := 44) dX9_post_40 (by decide) ?_
  refine g_iconst (q := 45) (v := (nI 3)) dX9_post_44 rfl (by decide) ?_
  refine gb_callV (q := 48) (j := 0) (i := 0) dX9_post_45 rfl kv_X9_210 (c_mthrowsIf1 (I := va_up I 0 (nI 0)) (A := A) (k := 3) rfl (by decide) (hB.1.at (j := 0) rfl)) rfl (by decide) hB rfl rfl rfl rfl (bz_le rfl) (by decide) (by decide) (fun r g1 hQ => ?_)
  obtain ⟨rfl, h1⟩ := hQ
  have hB := hB.sp (j := 0) rfl 0 rfl h1 (bz_le rfl)
  refine g_ifN_eq (q := 51) (t := 53) dX9_post_48 rfl (by decide) (by omega) (fun c => absurd c (by omega)) (fun _ => ?_)
  refine g_iconst (q := 52) (v := (nI 0)) dX9_post_51 rfl (by decide) ?_
  exact g_iret dX9_post_52 rfl (⟨rfl, hB⟩)
set_option maxRecDepth 20000 in
set_option maxHeartbeats 1000000 in
theorem c_mpost0 {l : Launch} {E : bz_E} {L : List Nat} {g : Nat → va_E} {o : Nat} {I : Nat → Int32} {A : Nat → Nat → Int32} {s ad wd z now : Nat} {v : Int32} {rx : Bool} {P : Po} {hl : List Si} {σ : Si} (hs : s < 2) (hw : 1 ≤ wd ∧ wd ≤ 4) (ha : ad + wd ≤ 16) (hP : m_sd (A 1) s P) (hz : A 2 (4 * s + 0) = nI z) (hz8 : z ≤ 8) (hcz : s_cnt 0 P.1 ≤ z) (hlt : s_cnt 0 P.1 < z) (hn0 : A 1 0 = nI now) (hnow : now < 100000) (hun : m_un (A 13) hl) (hln : I 27 = nI hl.length) (h10 : hl.length ≤ 10) (hst : m_st (A 1) σ) (hH : bz_H L g o (b_Mod E o I A)) : bz_K l E mX9_post 3 [.ref o, .int (nI s), .int (nI ad), .int (nI wd), .int v, .int (tB rx)] L g (fun r g1 => r = some (.int (nI (P.1.length + 1))) ∧ ∃ N U : Nat → Int32, bz_B L g g1 [(o, b_Mod E o (va_up (va_up I 0 (nI 0)) 27 (nI (s_kp hl σ).length)) (va_up (va_up A 13 U) 1 N))] ∧ m_un U (s_kp hl σ) ∧ m_sd N s (P.1 ++ [s_ent 0 0 rx ad wd now (s_vals v wd)], P.2) ∧ ∀ j, ¬ m_rg s j → N j = A 1 j) := by
  refine bz_K.of (by decide) (bz_le rfl) (fun sz => ?_)
  show bz_G _ _ _ _ _ _ _ _ _ _ _ _ 0 [(0, .ref o), (1, .int (nI s)), (2, .int (nI ad)), (3, .int (nI wd)), (4, .int v), (5, .int (tB rx))] []
  have hB := bz_B.rf (bz_W.one hH)
  have hql : P.1.length < 32 := hP.2.2.2.2.2.2.2.2.2.1.lt (k := 0) (by omega) (by omega)
  have hN := m_sd_ent (k := 0) (t := 0) (v := v) (vs := s_vals v wd) (rx := rx) hs (by decide) hP hn0 hnow (by omega) (by decide) ha hw.2 (fun _ => rfl) (fun h => absurd h (by decide))
  refine g_aload_n (q := 1) dX9_post_0 rfl rfl ?_
  refine g_iload_n (q := 2) dX9_post_1 rfl rfl ?_
  refine gb_callV (q := 5) (j := 0) (i := 0) dX9_post_2 rfl kv_X9_227 (c_mnoSide0 hs (hB.1.at (j := 0) rfl)) rfl (by decide) hB rfl rfl rfl rfl (bz_le rfl) (by decide) (by decide) (fun r g1 hQ => ?_)
  obtain ⟨rfl, h1⟩ := hQ
  have hB := hB.sp (j := 0) rfl 0 rfl h1 (bz_le rfl)
  refine g_ifN_ne (q := 8) (t := 51) dX9_post_5 rfl (by decide) (by omega) (fun c => absurd c (by omega)) (fun _ => ?_)
  refine g_aload_n (q := 9) dX9_post_8 rfl rfl ?_
  refine g_iload_n (q := 10) dX9_post_9 rfl rfl ?_
  refine g_iload_n (q := 11) dX9_post_10 rfl rfl ?_
  refine g_callS (q := 14) dX9_post_11 rfl ks_X9_321 rfl (c_misRange0 (by omega) hw ha) (by decide) rfl (bz_le rfl) (by decide) (by decide) (fun r g1 hQ => ?_)
  obtain ⟨rfl, hg⟩ := hQ
  have hg := hg.symm
  subst hg
  refine g_ifN_ne (q := 17) (t := 21) dX9_post_14 rfl (by decide) (by omega) (fun _ => ?_) (fun c => absurd c (by omega))
  refine g_iconst (q := 22) (v := (nI 0)) dX9_post_21 rfl (by decide) ?_
  refine g_iconst (q := 23) (v := (nI 2)) dX9_post_22 rfl (by decide) ?_
  refine gb_callV (q := 26) (j := 0) (i := 0) dX9_post_23 rfl kv_X9_210 (c_mthrowsIf0 (I := va_up I 0 (nI 0)) (A := A) (k := 2) rfl (hB.1.at (j := 0) rfl)) rfl (by decide) hB rfl rfl rfl rfl (bz_le rfl) (by decide) (by decide) (fun r g1 hQ => ?_)
  obtain ⟨rfl, hg⟩ := hQ
  have hg := hg.symm
  subst hg
  refine g_ifN_ne (q := 29) (t := 51) dX9_post_26 rfl (by decide) (by omega) (fun c => absurd c (by omega)) (fun _ => ?_)
  refine g_aload_n (q := 30) dX9_post_29 rfl rfl ?_
  refine g_aload_n (q := 31) dX9_post_30 rfl rfl ?_
  refine g_iload_n (q := 32) dX9_post_31 rfl rfl ?_
  refine g_iconst (q := 33) (v := (nI 0)) dX9_post_32 rfl (by decide) ?_
  refine gb_callV (q := 36) (j := 0) (i := 0) dX9_post_33 rfl kv_X9_275 (c_mroom (I := va_up I 0 (nI 0)) (A := A) (P := P) (z := z) hs (by decide) hz hP (hB.1.at (j := 0) rfl)) rfl (by decide) hB rfl rfl rfl rfl (bz_le rfl) (by decide) (by decide) (fun r g1 hQ => ?_)
  obtain ⟨rfl, hg⟩ := hQ
  have hg := hg.symm
  subst hg
  refine g_eqi (v := nI (z - s_cnt 0 P.1)) (bz_subI hcz) ?_
  refine g_ifN_gt (q := 39) (t := 43) dX9_post_36 rfl (by decide) (by omega) (fun _ => ?_) (fun c => absurd c (by omega))
  refine g_iconst (q := 44) (v := (nI 0)) dX9_post_43 rfl (by decide) ?_
  refine g_iconst (q := 45) (v := (nI 3)) dX9_post_44 rfl (by decide) ?_
  refine gb_callV (q := 48) (j := 0) (i := 0) dX9_post_45 rfl kv_X9_210 (c_mthrowsIf0 (I := va_up I 0 (nI 0)) (A := A) (k := 3) rfl (hB.1.at (j := 0) rfl)) rfl (by decide) hB rfl rfl rfl rfl (bz_le rfl) (by decide) (by decide) (fun r g1 hQ => ?_)
  obtain ⟨rfl, hg⟩ := hQ
  have hg := hg.symm
  subst hg
  refine g_ifN_eq (q := 51) (t := 53) dX9_post_48 rfl (by decide) (by omega) (fun _ => ?_) (fun c => absurd c (by omega))
  refine g_aload_n (q := 54) dX9_post_53 rfl rfl ?_
  refine gb_callV (q := 57) (j := 0) (i := 0) dX9_post_54 rfl kv_X9_318 (c_mkeeps (I := va_up I 0 (nI 0)) (A := A) (hs := hl) (σ := σ) hun hln h10 hst (hB.1.at (j := 0) rfl)) rfl (by decide) hB rfl rfl rfl rfl (bz_le rfl) (by decide) (by decide) (fun r g1 hQ => ?_)
  obtain ⟨rfl, U, h1, hU⟩ := hQ
  have hB := hB.sp (j := 0) rfl 0 rfl h1 (bz_le rfl)
  refine g_aload_n (q := 58) dX9_post_57 rfl rfl ?_
  refine gb_getf (q := 61) (j := 0) (i := 0) dX9_post_58 rfl fl_X9_7 hB rfl rfl rfl rfl ?_
  refine g_aload_n (q := 62) dX9_post_61 rfl rfl ?_
  refine g_iload_n (q := 63) dX9_post_62 rfl rfl ?_
  refine g_iconst (q := 64) (v := (nI 0)) dX9_post_63 rfl (by decide) ?_
  refine g_iconst (q := 65) (v := (-1)) dX9_post_64 rfl (by decide) ?_
  refine g_iload_n (q := 66) dX9_post_65 rfl rfl ?_
  refine g_iload_n (q := 67) dX9_post_66 rfl rfl ?_
  refine g_iload (q := 69) dX9_post_67 rfl rfl ?_
  refine gb_callV (q := 72) (j := 0) (i := 0) dX9_post_69 rfl kv_X9_278 (c_mcomes (I := (va_up (va_up I 0 (nI 0)) 27 (nI (s_kp hl σ).length))) (A := va_up A 13 U) (n := P.1.length) (rx := rx) hs hql hP.1 (hB.1.at (j := 0) rfl)) rfl (by decide) hB rfl rfl rfl rfl (bz_le rfl) (by decide) (by decide) (fun r g1 hQ => ?_)
  obtain ⟨rfl, h1⟩ := hQ
  have hB := hB.sp (j := 0) rfl 0 rfl h1 (bz_le rfl)
  refine g_iconst (q := 73) (v := (nI 4)) dX9_post_72 rfl (by decide) ?_
  refine g_iaddN (q := 74) dX9_post_73 rfl ?_
  refine g_iload (q := 76) dX9_post_74 rfl rfl ?_
  refine gb_iastN (q := 77) (j := 0) (i := 1) dX9_post_76 rfl hB rfl rfl rfl (by omega) (by decide) (fun g hB => ?_)
  refine g_aload_n (q := 78) dX9_post_77 rfl rfl ?_
  refine gb_getf (q := 81) (j := 0) (i := 0) dX9_post_78 rfl fl_X9_7 hB rfl rfl rfl rfl ?_
  refine g_iconst (q := 82) (v := (nI 1)) dX9_post_81 rfl (by decide) ?_
  refine g_iload_n (q := 83) dX9_post_82 rfl rfl ?_
  refine g_iaddN (q := 84) dX9_post_83 rfl ?_
  refine gb_ialdN (q := 85) (j := 0) (i := 1) dX9_post_84 rfl hB rfl rfl rfl (by omega) (by decide) ?_
  refine g_eqi (v := nI (P.1.length + 1)) ((upd_ne (by omega)).trans (m_cm_at hs).2.2.2.2.2.2.1) ?_
  exact g_iret dX9_post_85 rfl (⟨rfl, _, U, hB, hU, hN.1, hN.2⟩)
set_option maxRecDepth 20000 in
set_option maxHeartbeats 1000000 in
theorem c_mread3 {l : Launch} {E : bz_E} {L : List Nat} {g : Nat → va_E} {o : Nat} {I : Nat → Int32} {A : Nat → Nat → Int32} {u a w rx1 : Int32} (hb : m_bad u 2 = true) (hH : bz_H L g o (b_Mod E o I A)) : bz_K l E mX9_read 3 [.ref o, .int u, .int a, .int w, .int rx1] L g (fun r g1 => r = some (.int (nI 0)) ∧ bz_B L g g1 [(o, b_Mod E o (va_up I 0 (nI 1)) A)]) := by
  refine bz_K.of (by decide) (bz_le rfl) (fun sz => ?_)
  have hB := bz_B.rf (bz_W.one hH)
  show bz_G _ _ _ _ _ _ _ _ _ _ _ _ 0 [(0, .ref o), (1, .int u), (2, .int a), (3, .int w), (4, .int rx1)] []
  refine g_aload_n (q := 1) dX9_read_0 rfl rfl ?_
  refine g_iload_n (q := 2) dX9_read_1 rfl rfl ?_
  refine gb_callV (q := 5) (j := 0) (i := 0) dX9_read_2 rfl kv_X9_227 (c_mnoSide1 hb (hB.1.at (j := 0) rfl)) rfl (by decide) hB rfl rfl rfl rfl (bz_le rfl) (by decide) (by decide) (fun r g1 hQ => ?_)
  obtain ⟨rfl, h1⟩ := hQ
  have hB := hB.sp (j := 0) rfl 0 rfl h1 (bz_le rfl)
  refine g_ifN_ne (q := 8) (t := 29) dX9_read_5 rfl (by decide) (by omega) (fun _ => ?_) (fun c => absurd c (by omega))
  refine g_iconst (q := 30) (v := (nI 0)) dX9_read_29 rfl (by decide) ?_
  refine g_goto (q := 44) dX9_read_30 (by decide) ?_
  exact g_iret dX9_read_44 rfl (⟨rfl, hB⟩)
set_option maxRecDepth 20000 in
set_option maxHeartbeats 1000000 in
theorem c_mread2 {l : Launch} {E : bz_E} {L : List Nat} {g : Nat → va_E} {o : Nat} {I : Nat → Int32} {A : Nat → Nat → Int32} {s : Nat} {a w rx1 : Int32} (hs : s < 2) (hb : m_bad a 16 = true ∨ (if w < nI 1 then (0 : Int32) else if nI 4 < w then 0 else 1) = nI 0 ∨ ∃ x y : Nat, a = nI x ∧ w = nI y ∧ x < 16 ∧ y ≤ 4 ∧ 16 < x + y) (hH : bz_H L g o (b_Mod E o I A)) : bz_K l E mX9_read 3 [.ref o, .int (nI s), .int a, .int w, .int rx1] L g (fun r g1 => r = some (.int (nI 0)) ∧ bz_B L g g1 [(o, b_Mod E o (va_up I 0 (nI 2)) A)]) := by
  refine bz_K.of (by decide) (bz_le rfl) (fun sz => ?_)
  have hB := bz_B.rf (bz_W.one hH)
  show bz_G _ _ _ _ _ _ _ _ _ _ _ _ 0 [(0, .ref o), (1, .int (nI s)), (2, .int a), (3, .int w), (4, .int rx1)] []
  refine g_aload_n (q := 1) dX9_read_0 rfl rfl ?_
  refine g_iload_n (q := 2) dX9_read_1 rfl rfl ?_
  refine gb_callV (q := 5) (j := 0) (i := 0) dX9_read_2 rfl kv_X9_227 (c_mnoSide0 hs (hB.1.at (j := 0) rfl)) rfl (by decide) hB rfl rfl rfl rfl (bz_le rfl) (by decide) (by decide) (fun r g1 hQ => ?_)
  obtain ⟨rfl, h1⟩ := hQ
  have hB := hB.sp (j := 0) rfl 0 rfl h1 (bz_le rfl)
  refine g_ifN_ne (q := 8) (t := 29) dX9_read_5 rfl (by decide) (by omega) (fun c => absurd c (by omega)) (fun _ => ?_)
  refine g_aload_n (q := 9) dX9_read_8 rfl rfl ?_
  refine g_iload_n (q := 10) dX9_read_9 rfl rfl ?_
  refine g_iload_n (q := 11) dX9_read_10 rfl rfl ?_
  refine g_callS (q := 14) dX9_read_11 rfl ks_X9_321 rfl (c_misRange1 hb) (by decide) rfl (bz_le rfl) (by decide) (by decide) (fun r g1 hQ => ?_)
  obtain ⟨rfl, hg⟩ := hQ
  have hg := hg.symm
  subst hg
  refine g_ifN_ne (q := 17) (t := 21) dX9_read_14 rfl (by decide) (by omega) (fun c => absurd c (by omega)) (fun _ => ?_)
  refine g_iconst (q := 18) (v := (nI 1)) dX9_read_17 rfl (by decide) ?_
  refine g_goto (q := 22) dX9_read_18 (by decide) ?_
  refine g_iconst (q := 23) (v := (nI 2)) dX9_read_22 rfl (by decide) ?_
  refine gb_callV (q := 26) (j := 0) (i := 0) dX9_read_23 rfl kv_X9_210 (c_mthrowsIf1 (I := va_up I 0 (nI 0)) (A := A) (k := 2) rfl (by decide) (hB.1.at (j := 0) rfl)) rfl (by decide) hB rfl rfl rfl rfl (bz_le rfl) (by decide) (by decide) (fun r g1 hQ => ?_)
  obtain ⟨rfl, h1⟩ := hQ
  have hB := hB.sp (j := 0) rfl 0 rfl h1 (bz_le rfl)
  refine g_ifN_eq (q := 29) (t := 33) dX9_read_26 rfl (by decide) (by omega) (fun c => absurd c (by omega)) (fun _ => ?_)
  refine g_iconst (q := 30) (v := (nI 0)) dX9_read_29 rfl (by decide) ?_
  refine g_goto (q := 44) dX9_read_30 (by decide) ?_
  exact g_iret dX9_read_44 rfl (⟨rfl, hB⟩)
set_option maxRecDepth 20000 in
set_option maxHeartbeats 1000000 in
theorem c_mread1 {l : Launch} {E : bz_E} {L : List Nat} {g : Nat → va_E} {o : Nat} {I : Nat → Int32} {A : Nat → Nat → Int32} {s ad wd c z : Nat} {rx : Bool} {P : Po} (hs : s < 2) (hP : m_sd (A 1) s P) (hc : A 6 1 = nI c) (hc8 : c ≤ 8) (h2 : ∀ t, t < 8 → P.2.2.1.1 t ≤ 2) (hz : A 2 (4 * s + 1) = nI z) (hz8 : z ≤ 8) (hcz : s_cnt 1 P.1 ≤ z) (hw : 1 ≤ wd ∧ wd ≤ 4) (ha : ad + wd ≤ 16) (hb : z ≤ s_cnt 1 P.1 ∨ s_fl P.2.2.1.1 c 0 = none) (hH : bz_H L g o (b_Mod E o I A)) : bz_K l E mX9_read 3 [.ref o, .int (nI s), .int (nI ad), .int (nI wd), .int (tB rx)] L g (fun r g1 => r = some (.int (nI 0)) ∧ bz_B L g g1 [(o, b_Mod E o (va_up I 0 (nI 3)) A)]) := by
  refine bz_K.of (by decide) (bz_le rfl) (fun sz => ?_)
  have hB := bz_B.rf (bz_W.one hH)
  show bz_G _ _ _ _ _ _ _ _ _ _ _ _ 0 [(0, .ref o), (1, .int (nI s)), (2, .int (nI ad)), (3, .int (nI wd)), (4, .int (tB rx))] []
  refine g_aload_n (q := 1) dX9_read_0 rfl rfl ?_
  refine g_iload_n (q := 2) dX9_read_1 rfl rfl ?_
  refine gb_callV (q := 5) (j := 0) (i := 0) dX9_read_2 rfl kv_X9_227 (c_mnoSide0 hs (hB.1.at (j := 0) rfl)) rfl (by decide) hB rfl rfl rfl rfl (bz_le rfl) (by decide) (by decide) (fun r g1 hQ => ?_)
  obtain ⟨rfl, h1⟩ := hQ
  have hB := hB.sp (j := 0) rfl 0 rfl h1 (bz_le rfl)
  refine g_ifN_ne (q := 8) (t := 29) dX9_read_5 rfl (by decide) (by omega) (fun c => absurd c (by omega)) (fun _ => ?_)
  refine g_aload_n (q := 9) dX9_read_8 rfl rfl ?_
  refine g_iload_n (q := 10) dX9_read_9 rfl rfl ?_
  refine g_iload_n (q := 11) dX9_read_10 rfl rfl ?_
  refine g_callS (q := 14) dX9_read_11 rfl ks_X9_321 rfl (c_misRange0 (by omega) hw ha) (by decide) rfl (bz_le rfl) (by decide) (by decide) (fun r g1 hQ => ?_)
  obtain ⟨rfl, hg⟩ := hQ
  have hg := hg.symm
  subst hg
  refine g_ifN_ne (q := 17) (t := 21) dX9_read_14 rfl (by decide) (by omega) (fun _ => ?_) (fun c => absurd c (by omega))
  refine g_iconst (q := 22) (v := (nI 0)) dX9_read_21 rfl (by decide) ?_
  refine g_iconst (q := 23) (v := (nI 2)) dX9_read_22 rfl (by decide) ?_
  refine gb_callV (q := 26) (j := 0) (i := 0) dX9_read_23 rfl kv_X9_210 (c_mthrowsIf0 (I := va_up I 0 (nI 0)) (A := A) (k := 2) rfl (hB.1.at (j := 0) rfl)) rfl (by decide) hB rfl rfl rfl rfl (bz_le rfl) (by decide) (by decide) (fun r g1 hQ => ?_)
  obtain ⟨rfl, hg⟩ := hQ
  have hg := hg.symm
  subst hg
  refine g_ifN_eq (q := 29) (t := 33) dX9_read_26 rfl (by decide) (by omega) (fun _ => ?_) (fun c => absurd c (by omega))
  refine g_aload_n (q := 34) dX9_read_33 rfl rfl ?_
  refine g_iload_n (q := 35) dX9_read_34 rfl rfl ?_
  refine g_iconst (q := 36) (v := (nI 1)) dX9_read_35 rfl (by decide) ?_
  refine g_iload_n (q := 37) dX9_read_36 rfl rfl ?_
  refine g_iload_n (q := 38) dX9_read_37 rfl rfl ?_
  refine g_iconst (q := 39) (v := (nI 0)) dX9_read_38 rfl (by decide) ?_
  refine g_iload (q := 41) dX9_read_39 rfl rfl ?_
  refine gb_callV (q := 44) (j := 0) (i := 0) dX9_read_41 rfl kv_X9_327 (c_masks1 (I := va_up I 0 (nI 0)) (A := A) (P := P) (c := c) (z := z) (rx := rx) hs (Or.inl rfl) hP hc hc8 h2 hz hz8 hcz rfl hb (hB.1.at (j := 0) rfl)) rfl (by decide) hB rfl rfl rfl rfl (bz_le rfl) (by decide) (by decide) (fun r g1 hQ => ?_)
  obtain ⟨rfl, h1⟩ := hQ
  have hB := hB.sp (j := 0) rfl 0 rfl h1 (bz_le rfl)
  exact g_iret dX9_read_44 rfl (⟨rfl, hB⟩)
set_option maxRecDepth 20000 in
set_option maxHeartbeats 1000000 in
theorem c_mread0 {l : Launch} {E : bz_E} {L : List Nat} {g : Nat → va_E} {o : Nat} {I : Nat → Int32} {A : Nat → Nat → Int32} {s ad wd c z : Nat} {rx : Bool} {P : Po} {t now : Nat} {hl : List Si} {σ : Si} (hs : s < 2) (hP : m_sd (A 1) s P) (hc : A 6 1 = nI c) (hc8 : c ≤ 8) (h2 : ∀ t, t < 8 → P.2.2.1.1 t ≤ 2) (hz : A 2 (4 * s + 1) = nI z) (hz8 : z ≤ 8) (hcz : s_cnt 1 P.1 ≤ z) (hw : 1 ≤ wd ∧ wd ≤ 4) (ha : ad + wd ≤ 16) (hlt : s_cnt 1 P.1 < z) (hfl : s_fl P.2.2.1.1 c 0 = some t) (ht : t < 8) (hn0 : A 1 0 = nI now) (hnow : now < 100000) (hun : m_un (A 13) hl) (hln : I 27 = nI hl.length) (h10 : hl.length ≤ 10) (hst : m_st (A 1) σ) (hH : bz_H L g o (b_Mod E o I A)) : bz_K l E mX9_read 3 [.ref o, .int (nI s), .int (nI ad), .int (nI wd), .int (tB rx)] L g (fun r g1 => r = some (.int (nI t)) ∧ ∃ N U : Nat → Int32, bz_B L g g1 [(o, b_Mod E o (va_up (va_up I 0 (nI 0)) 27 (nI (s_kp hl σ).length)) (va_up (va_up A 13 U) 1 N))] ∧ m_un U (s_kp hl σ) ∧ m_sd N s (P.1 ++ [s_ent 1 t rx ad wd now []], P.2.1, s_bgn P.2.2.1 t wd, P.2.2.2) ∧ ∀ j, ¬ m_rg s j → N j = A 1 j) := by
  refine bz_K.of (by decide) (bz_le rfl) (fun sz => ?_)
  have hB := bz_B.rf (bz_W.one hH)
  show bz_G _ _ _ _ _ _ _ _ _ _ _ _ 0 [(0, .ref o), (1, .int (nI s)), (2, .int (nI ad)), (3, .int (nI wd)), (4, .int (tB rx))] []
  refine g_aload_n (q := 1) dX9_read_0 rfl rfl ?_
  refine g_iload_n (q := 2) dX9_read_1 rfl rfl ?_
  refine gb_callV (q := 5) (j := 0) (i := 0) dX9_read_2 rfl kv_X9_227 (c_mnoSide0 hs (hB.1.at (j := 0) rfl)) rfl (by decide) hB rfl rfl rfl rfl (bz_le rfl) (by decide) (by decide) (fun r g1 hQ => ?_)
  obtain ⟨rfl, h1⟩ := hQ
  have hB := hB.sp (j := 0) rfl 0 rfl h1 (bz_le rfl)
  refine g_ifN_ne (q := 8) (t := 29) dX9_read_5 rfl (by decide) (by omega) (fun c => absurd c (by omega)) (fun _ => ?_)
  refine g_aload_n (q := 9) dX9_read_8 rfl rfl ?_
  refine g_iload_n (q := 10) dX9_read_9 rfl rfl ?_
  refine g_iload_n (q := 11) dX9_read_10 rfl rfl ?_
  refine g_callS (q := 14) dX9_read_11 rfl ks_X9_321 rfl (c_misRange0 (by omega) hw ha) (by decide) rfl (bz_le rfl) (by decide) (by decide) (fun r g1 hQ => ?_)
  obtain ⟨rfl, hg⟩ := hQ
  have hg := hg.symm
  subst hg
  refine g_ifN_ne (q := 17) (t := 21) dX9_read_14 rfl (by decide) (by omega) (fun _ => ?_) (fun c => absurd c (by omega))
  refine g_iconst (q := 22) (v := (nI 0)) dX9_read_21 rfl (by decide) ?_
  refine g_iconst (q := 23) (v := (nI 2)) dX9_read_22 rfl (by decide) ?_
  refine gb_callV (q := 26) (j := 0) (i := 0) dX9_read_23 rfl kv_X9_210 (c_mthrowsIf0 (I := va_up I 0 (nI 0)) (A := A) (k := 2) rfl (hB.1.at (j := 0) rfl)) rfl (by decide) hB rfl rfl rfl rfl (bz_le rfl) (by decide) (by decide) (fun r g1 hQ => ?_)
  obtain ⟨rfl, hg⟩ := hQ
  have hg := hg.symm
  subst hg
  refine g_ifN_eq (q := 29) (t := 33) dX9_read_26 rfl (by decide) (by omega) (fun _ => ?_) (fun c => absurd c (by omega))
  refine g_aload_n (q := 34) dX9_read_33 rfl rfl ?_
  refine g_iload_n (q := 35) dX9_read_34 rfl rfl ?_
  refine g_iconst (q := 36) (v := (nI 1)) dX9_read_35 rfl (by decide) ?_
  refine g_iload_n (q := 37) dX9_read_36 rfl rfl ?_
  refine g_iload_n (q := 38) dX9_read_37 rfl rfl ?_
  refine g_iconst (q := 39) (v := (nI 0)) dX9_read_38 rfl (by decide) ?_
  refine g_iload (q := 41) dX9_read_39 rfl rfl ?_
  refine gb_callV (q := 44) (j := 0) (i := 0) dX9_read_41 rfl kv_X9_327 (c_masks0 (I := va_up I 0 (nI 0)) (A := A) (P := P) (c := c) (z := z) (rx := rx) (vs := []) (hl := hl) (σ := σ) (now := now) hs (Or.inl rfl) hP hc hc8 h2 hz hz8 hcz rfl hlt hfl ht hn0 hnow ha hw.2 (fun h => absurd rfl h) (fun _ => rfl) hun hln h10 hst (hB.1.at (j := 0) rfl)) rfl (by decide) hB rfl rfl rfl rfl (bz_le rfl) (by decide) (by decide) (fun r g1 hQ => ?_)
  obtain ⟨rfl, N, U, h1, hU, hN, hf⟩ := hQ
  have hB := hB.sp (j := 0) rfl 0 rfl h1 (bz_le rfl)
  exact g_iret dX9_read_44 rfl (⟨rfl, N, U, hB, hU, hN, hf⟩)
set_option maxRecDepth 20000 in
set_option maxHeartbeats 1000000 in
theorem c_mconfigure3 {l : Launch} {E : bz_E} {L : List Nat} {g : Nat → va_E} {o : Nat} {I : Nat → Int32} {A : Nat → Nat → Int32} {u a v rx1 : Int32} (hb : m_bad u 2 = true) (hH : bz_H L g o (b_Mod E o I A)) : bz_K l E mX9_configure 3 [.ref o, .int u, .int a, .int v, .int rx1] L g (fun r g1 => r = some (.int (nI 0)) ∧ bz_B L g g1 [(o, b_Mod E o (va_up I 0 (nI 1)) A)]) := by
  refine bz_K.of (by decide) (bz_le rfl) (fun sz => ?_)
  have hB := bz_B.rf (bz_W.one hH)
  show bz_G _ _ _ _ _ _ _ _ _ _ _ _ 0 [(0, .ref o), (1, .int u), (2, .int a), (3, .int v), (4, .int rx1)] []
  refine g_aload_n (q := 1) dX9_configure_0 rfl rfl ?_
  refine g_iload_n (q := 2) dX9_configure_1 rfl rfl ?_
  refine gb_callV (q := 5) (j := 0) (i := 0) dX9_configure_2 rfl kv_X9_227 (c_mnoSide1 hb (hB.1.at (j := 0) rfl)) rfl (by decide) hB rfl rfl rfl rfl (bz_le rfl) (by decide) (by decide) (fun r g1 hQ => ?_)
  obtain ⟨rfl, h1⟩ := hQ
  have hB := hB.sp (j := 0) rfl 0 rfl h1 (bz_le rfl)
  refine g_ifN_ne (q := 8) (t := 29) dX9_configure_5 rfl (by decide) (by omega) (fun _ => ?_) (fun c => absurd c (by omega))
  refine g_iconst (q := 30) (v := (nI 0)) dX9_configure_29 rfl (by decide) ?_
  refine g_goto (q := 44) dX9_configure_30 (by decide) ?_
  exact g_iret dX9_configure_44 rfl (⟨rfl, hB⟩)
set_option maxRecDepth 20000 in
set_option maxHeartbeats 1000000 in
theorem c_mconfigure2 {l : Launch} {E : bz_E} {L : List Nat} {g : Nat → va_E} {o : Nat} {I : Nat → Int32} {A : Nat → Nat → Int32} {s : Nat} {a v rx1 : Int32} (hs : s < 2) (hb : m_bad a 16 = true) (hH : bz_H L g o (b_Mod E o I A)) : bz_K l E mX9_configure 3 [.ref o, .int (nI s), .int a, .int v, .int rx1] L g (fun r g1 => r = some (.int (nI 0)) ∧ bz_B L g g1 [(o, b_Mod E o (va_up I 0 (nI 2)) A)]) := by
  refine bz_K.of (by decide) (bz_le rfl) (fun sz => ?_)
  have hB := bz_B.rf (bz_W.one hH)
  show bz_G _ _ _ _ _ _ _ _ _ _ _ _ 0 [(0, .ref o), (1, .int (nI s)), (2, .int a), (3, .int v), (4, .int rx1)] []
  refine g_aload_n (q := 1) dX9_configure_0 rfl rfl ?_
  refine g_iload_n (q := 2) dX9_configure_1 rfl rfl ?_
  refine gb_callV (q := 5) (j := 0) (i := 0) dX9_configure_2 rfl kv_X9_227 (c_mnoSide0 hs (hB.1.at (j := 0) rfl)) rfl (by decide) hB rfl rfl rfl rfl (bz_le rfl) (by decide) (by decide) (fun r g1 hQ => ?_)
  obtain ⟨rfl, h1⟩ := hQ
  have hB := hB.sp (j := 0) rfl 0 rfl h1 (bz_le rfl)
  refine g_ifN_ne (q := 8) (t := 29) dX9_configure_5 rfl (by decide) (by omega) (fun c => absurd c (by omega)) (fun _ => ?_)
  refine g_aload_n (q := 9) dX9_configure_8 rfl rfl ?_
  refine g_iload_n (q := 10) dX9_configure_9 rfl rfl ?_
  refine g_iconst (q := 11) (v := (nI 1)) dX9_configure_10 rfl (by decide) ?_
  refine g_callS (q := 14) dX9_configure_11 rfl ks_X9_321 rfl (c_misRange1 (Or.inl hb)) (by decide) rfl (bz_le rfl) (by decide) (by decide) (fun r g1 hQ => ?_)
  obtain ⟨rfl, hg⟩ := hQ
  have hg := hg.symm
  subst hg
  refine g_ifN_ne (q := 17) (t := 21) dX9_configure_14 rfl (by decide) (by omega) (fun c => absurd c (by omega)) (fun _ => ?_)
  refine g_iconst (q := 18) (v := (nI 1)) dX9_configure_17 rfl (by decide) ?_
  refine g_goto (q := 22) dX9_configure_18 (by decide) ?_
  refine g_iconst (q := 23) (v := (nI 2)) dX9_configure_22 rfl (by decide) ?_
  refine gb_callV (q := 26) (j := 0) (i := 0) dX9_configure_23 rfl kv_X9_210 (c_mthrowsIf1 (I := va_up I 0 (nI 0)) (A := A) (k := 2) rfl (by decide) (hB.1.at (j := 0) rfl)) rfl (by decide) hB rfl rfl rfl rfl (bz_le rfl) (by decide) (by decide) (fun r g1 hQ => ?_)
  obtain ⟨rfl, h1⟩ := hQ
  have hB := hB.sp (j := 0) rfl 0 rfl h1 (bz_le rfl)
  refine g_ifN_eq (q := 29) (t := 33) dX9_configure_26 rfl (by decide) (by omega) (fun c => absurd c (by omega)) (fun _ => ?_)
  refine g_iconst (q := 30) (v := (nI 0)) dX9_configure_29 rfl (by decide) ?_
  refine g_goto (q := 44) dX9_configure_30 (by decide) ?_
  exact g_iret dX9_configure_44 rfl (⟨rfl, hB⟩)
set_option maxRecDepth 20000 in
set_option maxHeartbeats 1000000 in
theorem c_mconfigure1 {l : Launch} {E : bz_E} {L : List Nat} {g : Nat → va_E} {o : Nat} {I : Nat → Int32} {A : Nat → Nat → Int32} {s ad c z : Nat} {v : Int32} {rx : Bool} {P : Po} (hs : s < 2) (hP : m_sd (A 1) s P) (hc : A 6 1 = nI c) (hc8 : c ≤ 8) (h2 : ∀ t, t < 8 → P.2.2.1.1 t ≤ 2) (hz : A 2 (4 * s + 2) = nI z) (hz8 : z ≤ 8) (hcz : s_cnt 2 P.1 ≤ z) (ha : ad < 16) (hb : z ≤ s_cnt 2 P.1 ∨ s_fl P.2.2.1.1 c 0 = none) (hH : bz_H L g o (b_Mod E o I A)) : bz_K l E mX9_configure 3 [.ref o, .int (nI s), .int (nI ad), .int v, .int (tB rx)] L g (fun r g1 => r = some (.int (nI 0)) ∧ bz_B L g g1 [(o, b_Mod E o (va_up I 0 (nI 3)) A)]) := by
  refine bz_K.of (by decide) (bz_le rfl) (fun sz => ?_)
  have hB := bz_B.rf (bz_W.one hH)
  show bz_G _ _ _ _ _ _ _ _ _ _ _ _ 0 [(0, .ref o), (1, .int (nI s)), (2, .int (nI ad)), (3, .int v), (4, .int (tB rx))] []
  refine g_aload_n (q := 1) dX9_configure_0 rfl rfl ?_
  refine g_iload_n (q := 2) dX9_configure_1 rfl rfl ?_
  refine gb_callV (q := 5) (j := 0) (i := 0) dX9_configure_2 rfl kv_X9_227 (c_mnoSide0 hs (hB.1.at (j := 0) rfl)) rfl (by decide) hB rfl rfl rfl rfl (bz_le rfl) (by decide) (by decide) (fun r g1 hQ => ?_)
  obtain ⟨rfl, h1⟩ := hQ
  have hB := hB.sp (j := 0) rfl 0 rfl h1 (bz_le rfl)
  refine g_ifN_ne (q := 8) (t := 29) dX9_configure_5 rfl (by decide) (by omega) (fun c => absurd c (by omega)) (fun _ => ?_)
  refine g_aload_n (q := 9) dX9_configure_8 rfl rfl ?_
  refine g_iload_n (q := 10) dX9_configure_9 rfl rfl ?_
  refine g_iconst (q := 11) (v := (nI 1)) dX9_configure_10 rfl (by decide) ?_
  refine g_callS (q := 14) dX9_configure_11 rfl ks_X9_321 rfl (c_misRange0 (b := 1) ha (by decide) (by omega)) (by decide) rfl (bz_le rfl) (by decide) (by decide) (fun r g1 hQ => ?_)
  obtain ⟨rfl, hg⟩ := hQ
  have hg := hg.symm
  subst hg
  refine g_ifN_ne (q := 17) (t := 21) dX9_configure_14 rfl (by decide) (by omega) (fun _ => ?_) (fun c => absurd c (by omega))
  refine g_iconst (q := 22) (v := (nI 0)) dX9_configure_21 rfl (by decide) ?_
  refine g_iconst (q := 23) (v := (nI 2)) dX9_configure_22 rfl (by decide) ?_
  refine gb_callV (q := 26) (j := 0) (i := 0) dX9_configure_23 rfl kv_X9_210 (c_mthrowsIf0 (I := va_up I 0 (nI 0)) (A := A) (k := 2) rfl (hB.1.at (j := 0) rfl)) rfl (by decide) hB rfl rfl rfl rfl (bz_le rfl) (by decide) (by decide) (fun r g1 hQ => ?_)
  obtain ⟨rfl, hg⟩ := hQ
  have hg := hg.symm
  subst hg
  refine g_ifN_eq (q := 29) (t := 33) dX9_configure_26 rfl (by decide) (by omega) (fun _ => ?_) (fun c => absurd c (by omega))
  refine g_aload_n (q := 34) dX9_configure_33 rfl rfl ?_
  refine g_iload_n (q := 35) dX9_configure_34 rfl rfl ?_
  refine g_iconst (q := 36) (v := (nI 2)) dX9_configure_35 rfl (by decide) ?_
  refine g_iload_n (q := 37) dX9_configure_36 rfl rfl ?_
  refine g_iconst (q := 38) (v := (nI 1)) dX9_configure_37 rfl (by decide) ?_
  refine g_iload_n (q := 39) dX9_configure_38 rfl rfl ?_
  refine g_iload (q := 41) dX9_configure_39 rfl rfl ?_
  refine gb_callV (q := 44) (j := 0) (i := 0) dX9_configure_41 rfl kv_X9_327 (c_masks1 (I := va_up I 0 (nI 0)) (A := A) (P := P) (c := c) (z := z) (rx := rx) hs (Or.inr rfl) hP hc hc8 h2 hz hz8 hcz rfl hb (hB.1.at (j := 0) rfl)) rfl (by decide) hB rfl rfl rfl rfl (bz_le rfl) (by decide) (by decide) (fun r g1 hQ => ?_)
  obtain ⟨rfl, h1⟩ := hQ
  have hB := hB.sp (j := 0) rfl 0 rfl h1 (bz_le rfl)
  exact g_iret dX9_configure_44 rfl (⟨rfl, hB⟩)
set_option maxRecDepth 20000 in
set_option maxHeartbeats 1000000 in
theorem c_mconfigure0 {l : Launch} {E : bz_E} {L : List Nat} {g : Nat → va_E} {o : Nat} {I : Nat → Int32} {A : Nat → Nat → Int32} {s ad c z : Nat} {v : Int32} {rx : Bool} {P : Po} {t now : Nat} {hl : List Si} {σ : Si} (hs : s < 2) (hP : m_sd (A 1) s P) (hc : A 6 1 = nI c) (hc8 : c ≤ 8) (h2 : ∀ t, t < 8 → P.2.2.1.1 t ≤ 2) (hz : A 2 (4 * s + 2) = nI z) (hz8 : z ≤ 8) (hcz : s_cnt 2 P.1 ≤ z) (ha : ad < 16) (hlt : s_cnt 2 P.1 < z) (hfl : s_fl P.2.2.1.1 c 0 = some t) (ht : t < 8) (hn0 : A 1 0 = nI now) (hnow : now < 100000) (hun : m_un (A 13) hl) (hln : I 27 = nI hl.length) (h10 : hl.length ≤ 10) (hst : m_st (A 1) σ) (hH : bz_H L g o (b_Mod E o I A)) : bz_K l E mX9_configure 3 [.ref o, .int (nI s), .int (nI ad), .int v, .int (tB rx)] L g (fun r g1 => r = some (.int (nI t)) ∧ ∃ N U : Nat → Int32, bz_B L g g1 [(o, b_Mod E o (va_up (va_up I 0 (nI 0)) 27 (nI (s_kp hl σ).length)) (va_up (va_up A 13 U) 1 N))] ∧ m_un U (s_kp hl σ) ∧ m_sd N s (P.1 ++ [s_ent 2 t rx ad 1 now (s_vals v 1)], P.2.1, s_bgn P.2.2.1 t 0, P.2.2.2) ∧ ∀ j, ¬ m_rg s j → N j = A 1 j) := by
  refine bz_K.of (by decide) (bz_le rfl) (fun sz => ?_)
  have hB := bz_B.rf (bz_W.one hH)
  show bz_G _ _ _ _ _ _ _ _ _ _ _ _ 0 [(0, .ref o), (1, .int (nI s)), (2, .int (nI ad)), (3, .int v), (4, .int (tB rx))] []
  refine g_aload_n (q := 1) dX9_configure_0 rfl rfl ?_
  refine g_iload_n (q := 2) dX9_configure_1 rfl rfl ?_
  refine gb_callV (q := 5) (j := 0) (i := 0) dX9_configure_2 rfl kv_X9_227 (c_mnoSide0 hs (hB.1.at (j := 0) rfl)) rfl (by decide) hB rfl rfl rfl rfl (bz_le rfl) (by decide) (by decide) (fun r g1 hQ => ?_)
  obtain ⟨rfl, h1⟩ := hQ
  have hB := hB.sp (j := 0) rfl 0 rfl h1 (bz_le rfl)
  refine g_ifN_ne (q := 8) (t := 29) dX9_configure_5 rfl (by decide) (by omega) (fun c => absurd c (by omega)) (fun _ => ?_)
  refine g_aload_n (q := 9) dX9_configure_8 rfl rfl ?_
  refine g_iload_n (q := 10) dX9_configure_9 rfl rfl ?_
  refine g_iconst (q := 11) (v := (nI 1)) dX9_configure_10 rfl (by decide) ?_
  refine g_callS (q := 14) dX9_configure_11 rfl ks_X9_321 rfl (c_misRange0 (b := 1) ha (by decide) (by omega)) (by decide) rfl (bz_le rfl) (by decide) (by decide) (fun r g1 hQ => ?_)
  obtain ⟨rfl, hg⟩ := hQ
  have hg := hg.symm
  subst hg
  refine g_ifN_ne (q := 17) (t := 21) dX9_configure_14 rfl (by decide) (by omega) (fun _ => ?_) (fun c => absurd c (by omega))
  refine g_iconst (q := 22) (v := (nI 0)) dX9_configure_21 rfl (by decide) ?_
  refine g_iconst (q := 23) (v := (nI 2)) dX9_configure_22 rfl (by decide) ?_
  refine gb_callV (q := 26) (j := 0) (i := 0) dX9_configure_23 rfl kv_X9_210 (c_mthrowsIf0 (I := va_up I 0 (nI 0)) (A := A) (k := 2) rfl (hB.1.at (j := 0) rfl)) rfl (by decide) hB rfl rfl rfl rfl (bz_le rfl) (by decide) (by decide) (fun r g1 hQ => ?_)
  obtain ⟨rfl, hg⟩ := hQ
  have hg := hg.symm
  subst hg
  refine g_ifN_eq (q := 29) (t := 33) dX9_configure_26 rfl (by decide) (by omega) (fun _ => ?_) (fun c => absurd c (by omega))
  refine g_aload_n (q := 34) dX9_configure_33 rfl rfl ?_
  refine g_iload_n (q := 35) dX9_configure_34 rfl rfl ?_
  refine g_iconst (q := 36) (v := (nI 2)) dX9_configure_35 rfl (by decide) ?_
  refine g_iload_n (q := 37) dX9_configure_36 rfl rfl ?_
  refine g_iconst (q := 38) (v := (nI 1)) dX9_configure_37 rfl (by decide) ?_
  refine g_iload_n (q := 39) dX9_configure_38 rfl rfl ?_
  refine g_iload (q := 41) dX9_configure_39 rfl rfl ?_
  refine gb_callV (q := 44) (j := 0) (i := 0) dX9_configure_41 rfl kv_X9_327 (c_masks0 (I := va_up I 0 (nI 0)) (A := A) (P := P) (c := c) (z := z) (rx := rx) (vs := s_vals v 1) (hl := hl) (σ := σ) (now := now) hs (Or.inr rfl) hP hc hc8 h2 hz hz8 hcz rfl hlt hfl ht hn0 hnow (by omega) (by decide) (fun _ => rfl) (fun h => absurd h (by decide)) hun hln h10 hst (hB.1.at (j := 0) rfl)) rfl (by decide) hB rfl rfl rfl rfl (bz_le rfl) (by decide) (by decide) (fun r g1 hQ => ?_)
  obtain ⟨rfl, N, U, h1, hU, hN, hf⟩ := hQ
  have hB := hB.sp (j := 0) rfl 0 rfl h1 (bz_le rfl)
  exact g_iret dX9_configure_44 rfl (⟨rfl, N, U, hB, hU, hN, hf⟩)
set_option maxRecDepth 20000 in
set_option maxHeartbeats 1000000 in
theorem c_mrelease3 {l : Launch} {E : bz_E} {L : List Nat} {g : Nat → va_E} {o : Nat} {I : Nat → Int32} {A : Nat → Nat → Int32} {v w : Int32} (hb : m_bad v 2 = true) (hH : bz_H L g o (b_Mod E o I A)) : bz_K l E mX9_release 4 [.ref o, .int v, .int w] L g (fun r g1 => r = some (.int (nI 0)) ∧ bz_B L g g1 [(o, b_Mod E o (va_up I 0 (nI 1)) A)]) := by
  refine bz_K.of (by decide) (bz_le rfl) (fun sz => ?_)
  have hB := bz_B.rf (bz_W.one hH)
  show bz_G _ _ _ _ _ _ _ _ _ _ _ _ 0 [(0, .ref o), (1, .int v), (2, .int w)] []
  refine g_aload_n (q := 1) dX9_release_0 rfl rfl ?_
  refine g_iload_n (q := 2) dX9_release_1 rfl rfl ?_
  refine g_iload_n (q := 3) dX9_release_2 rfl rfl ?_
  refine gb_callV (q := 6) (j := 0) (i := 0) dX9_release_3 rfl kv_X9_249 (c_mnoTag2 hb (hB.1.at (j := 0) rfl)) rfl (by decide) hB rfl rfl rfl rfl (bz_le rfl) (by decide) (by decide) (fun r g1 hQ => ?_)
  obtain ⟨rfl, h1⟩ := hQ
  have hB := hB.sp (j := 0) rfl 0 rfl h1 (bz_le rfl)
  refine g_ifN_ne (q := 9) (t := 38) dX9_release_6 rfl (by decide) (by omega) (fun _ => ?_) (fun c => absurd c (by omega))
  refine g_iconst (q := 39) (v := (nI 0)) dX9_release_38 rfl (by decide) ?_
  exact g_iret dX9_release_39 rfl (⟨rfl, hB⟩)
set_option maxRecDepth 20000 in
set_option maxHeartbeats 1000000 in
theorem c_mrelease2 {l : Launch} {E : bz_E} {L : List Nat} {g : Nat → va_E} {o : Nat} {I : Nat → Int32} {A : Nat → Nat → Int32} {s m : Nat} {v : Int32} (hs : s < 2) (hr : A 6 1 = nI m) (hb : m_bad v m = true) (hH : bz_H L g o (b_Mod E o I A)) : bz_K l E mX9_release 4 [.ref o, .int (nI s), .int v] L g (fun r g1 => r = some (.int (nI 0)) ∧ bz_B L g g1 [(o, b_Mod E o (va_up I 0 (nI 1)) A)]) := by
  refine bz_K.of (by decide) (bz_le rfl) (fun sz => ?_)
  have hB := bz_B.rf (bz_W.one hH)
  show bz_G _ _ _ _ _ _ _ _ _ _ _ _ 0 [(0, .ref o), (1, .int (nI s)), (2, .int v)] []
  refine g_aload_n (q := 1) dX9_release_0 rfl rfl ?_
  refine g_iload_n (q := 2) dX9_release_1 rfl rfl ?_
  refine g_iload_n (q := 3) dX9_release_2 rfl rfl ?_
  refine gb_callV (q := 6) (j := 0) (i := 0) dX9_release_3 rfl kv_X9_249 (c_mnoTag1 hs hr hb (hB.1.at (j := 0) rfl)) rfl (by decide) hB rfl rfl rfl rfl (bz_le rfl) (by decide) (by decide) (fun r g1 hQ => ?_)
  obtain ⟨rfl, h1⟩ := hQ
  have hB := hB.sp (j := 0) rfl 0 rfl h1 (bz_le rfl)
  refine g_ifN_ne (q := 9) (t := 38) dX9_release_6 rfl (by decide) (by omega) (fun _ => ?_) (fun c => absurd c (by omega))
  refine g_iconst (q := 39) (v := (nI 0)) dX9_release_38 rfl (by decide) ?_
  exact g_iret dX9_release_39 rfl (⟨rfl, hB⟩)
set_option maxRecDepth 20000 in
set_option maxHeartbeats 1000000 in
theorem c_mrelease1 {l : Launch} {E : bz_E} {L : List Nat} {g : Nat → va_E} {o : Nat} {I : Nat → Int32} {A : Nat → Nat → Int32} {s m t : Nat} {P : Po} (hs : s < 2) (hr : A 6 1 = nI m) (hk : t < m) (hm : m < 2 ^ 31) (hm8 : m ≤ 8) (hP : m_sd (A 1) s P) (h2 : P.2.2.1.1 t ≤ 2) (hb : P.2.2.1.1 t ≠ 2) (hH : bz_H L g o (b_Mod E o I A)) : bz_K l E mX9_release 4 [.ref o, .int (nI s), .int (nI t)] L g (fun r g1 => r = some (.int (nI 0)) ∧ bz_B L g g1 [(o, b_Mod E o (va_up I 0 (nI 2)) A)]) := by
  refine bz_K.of (by decide) (bz_le rfl) (fun sz => ?_)
  have hB := bz_B.rf (bz_W.one hH)
  show bz_G _ _ _ _ _ _ _ _ _ _ _ _ 0 [(0, .ref o), (1, .int (nI s)), (2, .int (nI t))] []
  refine g_aload_n (q := 1) dX9_release_0 rfl rfl ?_
  refine g_iload_n (q := 2) dX9_release_1 rfl rfl ?_
  refine g_iload_n (q := 3) dX9_release_2 rfl rfl ?_
  refine gb_callV (q := 6) (j := 0) (i := 0) dX9_release_3 rfl kv_X9_249 (c_mnoTag0 hs hr hk hm (hB.1.at (j := 0) rfl)) rfl (by decide) hB rfl rfl rfl rfl (bz_le rfl) (by decide) (by decide) (fun r g1 hQ => ?_)
  obtain ⟨rfl, h1⟩ := hQ
  have hB := hB.sp (j := 0) rfl 0 rfl h1 (bz_le rfl)
  refine g_ifN_ne (q := 9) (t := 38) dX9_release_6 rfl (by decide) (by omega) (fun c => absurd c (by omega)) (fun _ => ?_)
  refine g_aload_n (q := 10) dX9_release_9 rfl rfl ?_
  refine g_aload_n (q := 11) dX9_release_10 rfl rfl ?_
  refine gb_getf (q := 14) (j := 0) (i := 0) dX9_release_11 rfl fl_X9_7 hB rfl rfl rfl rfl ?_
  refine g_iload_n (q := 15) dX9_release_14 rfl rfl ?_
  refine g_iload_n (q := 16) dX9_release_15 rfl rfl ?_
  refine g_callS (q := 19) dX9_release_16 rfl ks_X9_252 rfl (c_tagged (s := s) (k := t)) (by decide) rfl (bz_le rfl) (by decide) (by decide) (fun r g1 hQ => ?_)
  obtain ⟨rfl, hg⟩ := hQ
  have hg := hg.symm
  subst hg
  refine g_iconst (q := 20) (v := (nI 0)) dX9_release_19 rfl (by decide) ?_
  refine g_iaddN (q := 21) dX9_release_20 rfl ?_
  refine gb_ialdN (q := 22) (j := 0) (i := 1) dX9_release_21 rfl hB rfl rfl rfl (by omega) (by decide) ?_
  refine g_eqi (v := nI (P.2.2.1.1 t)) ((hP.2.2.2.2.2.2.1 t (by omega)).1) ?_
  refine g_iconst (q := 23) (v := (nI 2)) dX9_release_22 rfl (by decide) ?_
  refine g_icmpN_eq (q := 26) (t := 30) dX9_release_23 rfl (by decide) (by omega) (by omega) (fun c => absurd c (by omega)) (fun _ => ?_)
  refine g_iconst (q := 27) (v := (nI 1)) dX9_release_26 rfl (by decide) ?_
  refine g_goto (q := 31) dX9_release_27 (by decide) ?_
  refine g_iconst (q := 32) (v := (nI 2)) dX9_release_31 rfl (by decide) ?_
  refine gb_callV (q := 35) (j := 0) (i := 0) dX9_release_32 rfl kv_X9_210 (c_mthrowsIf1 (I := va_up I 0 (nI 0)) (A := A) (k := 2) rfl (by decide) (hB.1.at (j := 0) rfl)) rfl (by decide) hB rfl rfl rfl rfl (bz_le rfl) (by decide) (by decide) (fun r g1 hQ => ?_)
  obtain ⟨rfl, h1⟩ := hQ
  have hB := hB.sp (j := 0) rfl 0 rfl h1 (bz_le rfl)
  refine g_ifN_eq (q := 38) (t := 40) dX9_release_35 rfl (by decide) (by omega) (fun c => absurd c (by omega)) (fun _ => ?_)
  refine g_iconst (q := 39) (v := (nI 0)) dX9_release_38 rfl (by decide) ?_
  exact g_iret dX9_release_39 rfl (⟨rfl, hB⟩)
set_option maxRecDepth 20000 in
set_option maxHeartbeats 1000000 in
theorem c_mrelease0 {l : Launch} {E : bz_E} {L : List Nat} {g : Nat → va_E} {o : Nat} {I : Nat → Int32} {A : Nat → Nat → Int32} {s m t : Nat} {P : Po} {hl : List Si} {σ : Si} (hs : s < 2) (hr : A 6 1 = nI m) (hk : t < m) (hm : m < 2 ^ 31) (hm8 : m ≤ 8) (hP : m_sd (A 1) s P) (h2 : P.2.2.1.1 t ≤ 2) (hb : P.2.2.1.1 t = 2) (hun : m_un (A 13) hl) (hln : I 27 = nI hl.length) (h10 : hl.length ≤ 10) (hst : m_st (A 1) σ) (hH : bz_H L g o (b_Mod E o I A)) : bz_K l E mX9_release 4 [.ref o, .int (nI s), .int (nI t)] L g (fun r g1 => r = some (.int (nI (v_pc (P.2.2.1.2.2.1 t)))) ∧ ∃ N U : Nat → Int32, bz_B L g g1 [(o, b_Mod E o (va_up (va_up I 0 (nI 0)) 27 (nI (s_kp hl σ).length)) (va_up (va_up A 13 U) 1 N))] ∧ m_un U (s_kp hl σ) ∧ m_sd N s (P.1, P.2.1, s_rls P.2.2.1 t, P.2.2.2) ∧ ∀ j, ¬ m_rg s j → N j = A 1 j) := by
  refine bz_K.of (by decide) (bz_le rfl) (fun sz => ?_)
  show bz_G _ _ _ _ _ _ _ _ _ _ _ _ 0 [(0, .ref o), (1, .int (nI s)), (2, .int (nI t))] []
  have hB := bz_B.rf (bz_W.one hH)
  have hN := m_sd_rls (t := t) hs hP (by omega)
  refine g_aload_n (q := 1) dX9_release_0 rfl rfl ?_
  refine g_iload_n (q := 2) dX9_release_1 rfl rfl ?_
  refine g_iload_n (q := 3) dX9_release_2 rfl rfl ?_
  refine gb_callV (q := 6) (j := 0) (i := 0) dX9_release_3 rfl kv_X9_249 (c_mnoTag0 hs hr hk hm (hB.1.at (j := 0) rfl)) rfl (by decide) hB rfl rfl rfl rfl (bz_le rfl) (by decide) (by decide) (fun r g1 hQ => ?_)
  obtain ⟨rfl, h1⟩ := hQ
  have hB := hB.sp (j := 0) rfl 0 rfl h1 (bz_le rfl)
  refine g_ifN_ne (q := 9) (t := 38) dX9_release_6 rfl (by decide) (by omega) (fun c => absurd c (by omega)) (fun _ => ?_)
  refine g_aload_n (q := 10) dX9_release_9 rfl rfl ?_
  refine g_aload_n (q := 11) dX9_release_10 rfl rfl ?_
  refine gb_getf (q := 14) (j := 0) (i := 0) dX9_release_11 rfl fl_X9_7 hB rfl rfl rfl rfl ?_
  refine g_iload_n (q := 15) dX9_release_14 rfl rfl ?_
  refine g_iload_n (q := 16) dX9_release_15 rfl rfl ?_
  refine g_callS (q := 19) dX9_release_16 rfl ks_X9_252 rfl (c_tagged (s := s) (k := t)) (by decide) rfl (bz_le rfl) (by decide) (by decide) (fun r g1 hQ => ?_)
  obtain ⟨rfl, hg⟩ := hQ
  have hg := hg.symm
  subst hg
  refine g_iconst (q := 20) (v := (nI 0)) dX9_release_19 rfl (by decide) ?_
  refine g_iaddN (q := 21) dX9_release_20 rfl ?_
  refine gb_ialdN (q := 22) (j := 0) (i := 1) dX9_release_21 rfl hB rfl rfl rfl (by omega) (by decide) ?_
  refine g_eqi (v := nI (P.2.2.1.1 t)) ((hP.2.2.2.2.2.2.1 t (by omega)).1) ?_
  refine g_iconst (q := 23) (v := (nI 2)) dX9_release_22 rfl (by decide) ?_
  refine g_icmpN_eq (q := 26) (t := 30) dX9_release_23 rfl (by decide) (by omega) (by omega) (fun _ => ?_) (fun c => absurd c (by omega))
  refine g_iconst (q := 31) (v := (nI 0)) dX9_release_30 rfl (by decide) ?_
  refine g_iconst (q := 32) (v := (nI 2)) dX9_release_31 rfl (by decide) ?_
  refine gb_callV (q := 35) (j := 0) (i := 0) dX9_release_32 rfl kv_X9_210 (c_mthrowsIf0 (I := va_up I 0 (nI 0)) (A := A) (k := 2) rfl (hB.1.at (j := 0) rfl)) rfl (by decide) hB rfl rfl rfl rfl (bz_le rfl) (by decide) (by decide) (fun r g1 hQ => ?_)
  obtain ⟨rfl, hg⟩ := hQ
  have hg := hg.symm
  subst hg
  refine g_ifN_eq (q := 38) (t := 40) dX9_release_35 rfl (by decide) (by omega) (fun _ => ?_) (fun c => absurd c (by omega))
  refine g_aload_n (q := 41) dX9_release_40 rfl rfl ?_
  refine gb_callV (q := 44) (j := 0) (i := 0) dX9_release_41 rfl kv_X9_318 (c_mkeeps (I := va_up I 0 (nI 0)) (A := A) (hs := hl) (σ := σ) hun hln h10 hst (hB.1.at (j := 0) rfl)) rfl (by decide) hB rfl rfl rfl rfl (bz_le rfl) (by decide) (by decide) (fun r g1 hQ => ?_)
  obtain ⟨rfl, U, h1, hU⟩ := hQ
  have hB := hB.sp (j := 0) rfl 0 rfl h1 (bz_le rfl)
  refine g_iload_n (q := 45) dX9_release_44 rfl rfl ?_
  refine g_iload_n (q := 46) dX9_release_45 rfl rfl ?_
  refine g_callS (q := 49) dX9_release_46 rfl ks_X9_252 rfl (c_tagged (s := s) (k := t)) (by decide) rfl (bz_le rfl) (by decide) (by decide) (fun r g1 hQ => ?_)
  obtain ⟨rfl, hg⟩ := hQ
  have hg := hg.symm
  subst hg
  refine g_istore_n (q := 50) rfl dX9_release_49 rfl (by decide) rfl ?_
  refine g_aload_n (q := 51) dX9_release_50 rfl rfl ?_
  refine gb_getf (q := 54) (j := 0) (i := 0) dX9_release_51 rfl fl_X9_7 hB rfl rfl rfl rfl ?_
  refine g_iload_n (q := 55) dX9_release_54 rfl rfl ?_
  refine g_iconst (q := 56) (v := (nI 2)) dX9_release_55 rfl (by decide) ?_
  refine g_iaddN (q := 57) dX9_release_56 rfl ?_
  refine gb_ialdN (q := 58) (j := 0) (i := 1) dX9_release_57 rfl hB rfl rfl rfl (by omega) (by decide) ?_
  refine g_eqi (v := nI (P.2.2.1.2.2.1 t)) ((hP.2.2.2.2.2.2.1 t (by omega)).2.2.1) ?_
  refine g_callS (q := 61) dX9_release_58 rfl ks_X9_255 rfl (c_mbits (hP.2.2.2.2.2.2.1 t (by omega)).2.2.2.1) (by decide) rfl (bz_le rfl) (by decide) (by decide) (fun r g1 hQ => ?_)
  obtain ⟨rfl, hg⟩ := hQ
  have hg := hg.symm
  subst hg
  refine g_istore (q := 63) dX9_release_61 rfl (by decide) rfl ?_
  refine g_aload_n (q := 64) dX9_release_63 rfl rfl ?_
  refine gb_getf (q := 67) (j := 0) (i := 0) dX9_release_64 rfl fl_X9_7 hB rfl rfl rfl rfl ?_
  refine g_iload_n (q := 68) dX9_release_67 rfl rfl ?_
  refine g_iconst (q := 69) (v := (nI 0)) dX9_release_68 rfl (by decide) ?_
  refine g_iaddN (q := 70) dX9_release_69 rfl ?_
  refine g_iconst (q := 71) (v := (nI 0)) dX9_release_70 rfl (by decide) ?_
  refine gb_iastN (q := 72) (j := 0) (i := 1) dX9_release_71 rfl hB rfl rfl rfl (by omega) (by decide) (fun g hB => ?_)
  refine g_aload_n (q := 73) dX9_release_72 rfl rfl ?_
  refine gb_getf (q := 76) (j := 0) (i := 0) dX9_release_73 rfl fl_X9_7 hB rfl rfl rfl rfl ?_
  refine g_iload_n (q := 77) dX9_release_76 rfl rfl ?_
  refine g_iconst (q := 78) (v := (nI 2)) dX9_release_77 rfl (by decide) ?_
  refine g_iaddN (q := 79) dX9_release_78 rfl ?_
  refine g_iconst (q := 80) (v := (nI 0)) dX9_release_79 rfl (by decide) ?_
  refine gb_iastN (q := 81) (j := 0) (i := 1) dX9_release_80 rfl hB rfl rfl rfl (by omega) (by decide) (fun g hB => ?_)
  refine g_iload (q := 83) dX9_release_81 rfl rfl ?_
  exact g_iret dX9_release_83 rfl (⟨rfl, _, U, hB, hU, hN.1, hN.2⟩)
