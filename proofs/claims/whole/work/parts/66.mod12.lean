/-! the reference: getters -/

set_option maxRecDepth 20000 in
set_option maxHeartbeats 1000000 in
theorem c_mthrown {l : Launch} {E : bz_E} {L : List Nat} {g : Nat → va_E} {o : Nat} {I : Nat → Int32} {A : Nat → Nat → Int32} (hH : bz_H L g o (b_Mod E o I A)) : bz_K l E mX9_thrown 0 [.ref o] L g (fun r g1 => r = some (.int (I 0)) ∧ g1 = g) := by
  refine bz_K.of (by decide) (bz_le rfl) (fun sz => ?_)
  have hB := bz_B.rf (bz_W.one hH)
  show bz_G _ _ _ _ _ _ _ _ _ _ _ _ 0 [(0, .ref o)] []
  refine g_aload_n (q := 1) dX9_thrown_0 rfl rfl ?_
  refine gb_getf (q := 4) (j := 0) (i := 0) dX9_thrown_1 rfl fl_X9_70 hB rfl rfl rfl rfl ?_
  exact g_iret dX9_thrown_4 rfl (⟨rfl, rfl⟩)
set_option maxRecDepth 20000 in
set_option maxHeartbeats 1000000 in
theorem c_mtick {l : Launch} {E : bz_E} {L : List Nat} {g : Nat → va_E} {o : Nat} {I : Nat → Int32} {A : Nat → Nat → Int32} (hH : bz_H L g o (b_Mod E o I A)) : bz_K l E mX9_tick 0 [.ref o] L g (fun r g1 => r = some (.int (A 1 0)) ∧ bz_B L g g1 [(o, b_Mod E o (va_up I 0 (nI 0)) A)]) := by
  refine bz_K.of (by decide) (bz_le rfl) (fun sz => ?_)
  have hB := bz_B.rf (bz_W.one hH)
  show bz_G _ _ _ _ _ _ _ _ _ _ _ _ 0 [(0, .ref o)] []
  refine g_aload_n (q := 1) dX9_tick_0 rfl rfl ?_
  refine g_iconst (q := 2) (v := (nI 0)) dX9_tick_1 rfl (by decide) ?_
  refine gb_putf (q := 5) (j := 0) (i := 0) dX9_tick_2 rfl fp_X9_70 hB rfl rfl rfl (bz_le rfl) rfl rfl (fun g hB => ?_)
  refine g_aload_n (q := 6) dX9_tick_5 rfl rfl ?_
  refine gb_getf (q := 9) (j := 0) (i := 0) dX9_tick_6 rfl fl_X9_7 hB rfl rfl rfl rfl ?_
  refine g_iconst (q := 10) (v := (nI 0)) dX9_tick_9 rfl (by decide) ?_
  refine gb_ialdN (q := 11) (j := 0) (i := 1) dX9_tick_10 rfl hB rfl rfl rfl (by omega) (by decide) ?_
  exact g_iret dX9_tick_11 rfl (⟨rfl, hB⟩)
set_option maxRecDepth 20000 in
set_option maxHeartbeats 1000000 in
theorem c_merrorPosition {l : Launch} {E : bz_E} {L : List Nat} {g : Nat → va_E} {o : Nat} {I : Nat → Int32} {A : Nat → Nat → Int32} (hH : bz_H L g o (b_Mod E o I A)) : bz_K l E mX9_errorPosition 0 [.ref o] L g (fun r g1 => r = some (.int (I 17)) ∧ bz_B L g g1 [(o, b_Mod E o (va_up I 0 (nI 0)) A)]) := by
  refine bz_K.of (by decide) (bz_le rfl) (fun sz => ?_)
  have hB := bz_B.rf (bz_W.one hH)
  show bz_G _ _ _ _ _ _ _ _ _ _ _ _ 0 [(0, .ref o)] []
  refine g_aload_n (q := 1) dX9_errorPosition_0 rfl rfl ?_
  refine g_iconst (q := 2) (v := (nI 0)) dX9_errorPosition_1 rfl (by decide) ?_
  refine gb_putf (q := 5) (j := 0) (i := 0) dX9_errorPosition_2 rfl fp_X9_70 hB rfl rfl rfl (bz_le rfl) rfl rfl (fun g hB => ?_)
  refine g_aload_n (q := 6) dX9_errorPosition_5 rfl rfl ?_
  refine gb_getf (q := 9) (j := 0) (i := 0) dX9_errorPosition_6 rfl fl_X9_38 hB rfl rfl rfl rfl ?_
  exact g_iret dX9_errorPosition_9 rfl (⟨rfl, hB⟩)
set_option maxRecDepth 20000 in
set_option maxHeartbeats 1000000 in
theorem c_mwaiting1 {l : Launch} {E : bz_E} {L : List Nat} {g : Nat → va_E} {o : Nat} {I : Nat → Int32} {A : Nat → Nat → Int32} {v : Int32} (hb : m_bad v 2 = true) (hH : bz_H L g o (b_Mod E o I A)) : bz_K l E mX9_waiting 3 [.ref o, .int v] L g (fun r g1 => r = some (.int (nI 0)) ∧ bz_B L g g1 [(o, b_Mod E o (va_up I 0 (nI 1)) A)]) := by
  refine bz_K.of (by decide) (bz_le rfl) (fun sz => ?_)
  have hB := bz_B.rf (bz_W.one hH)
  show bz_G _ _ _ _ _ _ _ _ _ _ _ _ 0 [(0, .ref o), (1, .int v)] []
  refine g_aload_n (q := 1) dX9_waiting_0 rfl rfl ?_
  refine g_iload_n (q := 2) dX9_waiting_1 rfl rfl ?_
  refine gb_callV (q := 5) (j := 0) (i := 0) dX9_waiting_2 rfl kv_X9_227 (c_mnoSide1 hb (hB.1.at (j := 0) rfl)) rfl (by decide) hB rfl rfl rfl rfl (bz_le rfl) (by decide) (by decide) (fun r g1 hQ => ?_)
  obtain ⟨rfl, h1⟩ := hQ
  have hB := hB.sp (j := 0) rfl 0 rfl h1 (bz_le rfl)
  refine g_ifN_eq (q := 8) (t := 12) dX9_waiting_5 rfl (by decide) (by omega) (fun c => absurd c (by omega)) (fun _ => ?_)
  refine g_iconst (q := 9) (v := (nI 0)) dX9_waiting_8 rfl (by decide) ?_
  refine g_goto (q := 20) dX9_waiting_9 (by decide) ?_
  exact g_iret dX9_waiting_20 rfl (⟨rfl, hB⟩)
set_option maxRecDepth 20000 in
set_option maxHeartbeats 1000000 in
theorem c_mwaiting0 {l : Launch} {E : bz_E} {L : List Nat} {g : Nat → va_E} {o : Nat} {I : Nat → Int32} {A : Nat → Nat → Int32} {s : Nat} (hs : s < 2) (hH : bz_H L g o (b_Mod E o I A)) : bz_K l E mX9_waiting 3 [.ref o, .int (nI s)] L g (fun r g1 => r = some (.int (A 1 (1 + s))) ∧ bz_B L g g1 [(o, b_Mod E o (va_up I 0 (nI 0)) A)]) := by
  refine bz_K.of (by decide) (bz_le rfl) (fun sz => ?_)
  have hB := bz_B.rf (bz_W.one hH)
  show bz_G _ _ _ _ _ _ _ _ _ _ _ _ 0 [(0, .ref o), (1, .int (nI s))] []
  refine g_aload_n (q := 1) dX9_waiting_0 rfl rfl ?_
  refine g_iload_n (q := 2) dX9_waiting_1 rfl rfl ?_
  refine gb_callV (q := 5) (j := 0) (i := 0) dX9_waiting_2 rfl kv_X9_227 (c_mnoSide0 hs (hB.1.at (j := 0) rfl)) rfl (by decide) hB rfl rfl rfl rfl (bz_le rfl) (by decide) (by decide) (fun r g1 hQ => ?_)
  obtain ⟨rfl, h1⟩ := hQ
  have hB := hB.sp (j := 0) rfl 0 rfl h1 (bz_le rfl)
  refine g_ifN_eq (q := 8) (t := 12) dX9_waiting_5 rfl (by decide) (by omega) (fun _ => ?_) (fun c => absurd c (by omega))
  refine g_aload_n (q := 13) dX9_waiting_12 rfl rfl ?_
  refine gb_getf (q := 16) (j := 0) (i := 0) dX9_waiting_13 rfl fl_X9_7 hB rfl rfl rfl rfl ?_
  refine g_iconst (q := 17) (v := (nI 1)) dX9_waiting_16 rfl (by decide) ?_
  refine g_iload_n (q := 18) dX9_waiting_17 rfl rfl ?_
  refine g_iaddN (q := 19) dX9_waiting_18 rfl ?_
  refine gb_ialdN (q := 20) (j := 0) (i := 1) dX9_waiting_19 rfl hB rfl rfl rfl (by omega) (by decide) ?_
  exact g_iret dX9_waiting_20 rfl (⟨rfl, hB⟩)
set_option maxRecDepth 20000 in
set_option maxHeartbeats 1000000 in
theorem c_mforwarded1 {l : Launch} {E : bz_E} {L : List Nat} {g : Nat → va_E} {o : Nat} {I : Nat → Int32} {A : Nat → Nat → Int32} {v : Int32} (hb : m_bad v 2 = true) (hH : bz_H L g o (b_Mod E o I A)) : bz_K l E mX9_forwarded 3 [.ref o, .int v] L g (fun r g1 => r = some (.int (nI 0)) ∧ bz_B L g g1 [(o, b_Mod E o (va_up I 0 (nI 1)) A)]) := by
  refine bz_K.of (by decide) (bz_le rfl) (fun sz => ?_)
  have hB := bz_B.rf (bz_W.one hH)
  show bz_G _ _ _ _ _ _ _ _ _ _ _ _ 0 [(0, .ref o), (1, .int v)] []
  refine g_aload_n (q := 1) dX9_forwarded_0 rfl rfl ?_
  refine g_iload_n (q := 2) dX9_forwarded_1 rfl rfl ?_
  refine gb_callV (q := 5) (j := 0) (i := 0) dX9_forwarded_2 rfl kv_X9_227 (c_mnoSide1 hb (hB.1.at (j := 0) rfl)) rfl (by decide) hB rfl rfl rfl rfl (bz_le rfl) (by decide) (by decide) (fun r g1 hQ => ?_)
  obtain ⟨rfl, h1⟩ := hQ
  have hB := hB.sp (j := 0) rfl 0 rfl h1 (bz_le rfl)
  refine g_ifN_eq (q := 8) (t := 12) dX9_forwarded_5 rfl (by decide) (by omega) (fun c => absurd c (by omega)) (fun _ => ?_)
  refine g_iconst (q := 9) (v := (nI 0)) dX9_forwarded_8 rfl (by decide) ?_
  refine g_goto (q := 20) dX9_forwarded_9 (by decide) ?_
  exact g_iret dX9_forwarded_20 rfl (⟨rfl, hB⟩)
set_option maxRecDepth 20000 in
set_option maxHeartbeats 1000000 in
theorem c_mforwarded0 {l : Launch} {E : bz_E} {L : List Nat} {g : Nat → va_E} {o : Nat} {I : Nat → Int32} {A : Nat → Nat → Int32} {s : Nat} (hs : s < 2) (hH : bz_H L g o (b_Mod E o I A)) : bz_K l E mX9_forwarded 3 [.ref o, .int (nI s)] L g (fun r g1 => r = some (.int (A 1 (5 + s))) ∧ bz_B L g g1 [(o, b_Mod E o (va_up I 0 (nI 0)) A)]) := by
  refine bz_K.of (by decide) (bz_le rfl) (fun sz => ?_)
  have hB := bz_B.rf (bz_W.one hH)
  show bz_G _ _ _ _ _ _ _ _ _ _ _ _ 0 [(0, .ref o), (1, .int (nI s))] []
  refine g_aload_n (q := 1) dX9_forwarded_0 rfl rfl ?_
  refine g_iload_n (q := 2) dX9_forwarded_1 rfl rfl ?_
  refine gb_callV (q := 5) (j := 0) (i := 0) dX9_forwarded_2 rfl kv_X9_227 (c_mnoSide0 hs (hB.1.at (j := 0) rfl)) rfl (by decide) hB rfl rfl rfl rfl (bz_le rfl) (by decide) (by decide) (fun r g1 hQ => ?_)
  obtain ⟨rfl, h1⟩ := hQ
  have hB := hB.sp (j := 0) rfl 0 rfl h1 (bz_le rfl)
  refine g_ifN_eq (q := 8) (t := 12) dX9_forwarded_5 rfl (by decide) (by omega) (fun _ => ?_) (fun c => absurd c (by omega))
  refine g_aload_n (q := 13) dX9_forwarded_12 rfl rfl ?_
  refine gb_getf (q := 16) (j := 0) (i := 0) dX9_forwarded_13 rfl fl_X9_7 hB rfl rfl rfl rfl ?_
  refine g_iconst (q := 17) (v := (nI 5)) dX9_forwarded_16 rfl (by decide) ?_
  refine g_iload_n (q := 18) dX9_forwarded_17 rfl rfl ?_
  refine g_iaddN (q := 19) dX9_forwarded_18 rfl ?_
  refine gb_ialdN (q := 20) (j := 0) (i := 1) dX9_forwarded_19 rfl hB rfl rfl rfl (by omega) (by decide) ?_
  exact g_iret dX9_forwarded_20 rfl (⟨rfl, hB⟩)
set_option maxRecDepth 20000 in
set_option maxHeartbeats 1000000 in
theorem c_mpassings1 {l : Launch} {E : bz_E} {L : List Nat} {g : Nat → va_E} {o : Nat} {I : Nat → Int32} {A : Nat → Nat → Int32} {v : Int32} (hb : m_bad v 2 = true) (hH : bz_H L g o (b_Mod E o I A)) : bz_K l E mX9_passings 3 [.ref o, .int v] L g (fun r g1 => r = some (.int (nI 0)) ∧ bz_B L g g1 [(o, b_Mod E o (va_up I 0 (nI 1)) A)]) := by
  refine bz_K.of (by decide) (bz_le rfl) (fun sz => ?_)
  have hB := bz_B.rf (bz_W.one hH)
  show bz_G _ _ _ _ _ _ _ _ _ _ _ _ 0 [(0, .ref o), (1, .int v)] []
  refine g_aload_n (q := 1) dX9_passings_0 rfl rfl ?_
  refine g_iload_n (q := 2) dX9_passings_1 rfl rfl ?_
  refine gb_callV (q := 5) (j := 0) (i := 0) dX9_passings_2 rfl kv_X9_227 (c_mnoSide1 hb (hB.1.at (j := 0) rfl)) rfl (by decide) hB rfl rfl rfl rfl (bz_le rfl) (by decide) (by decide) (fun r g1 hQ => ?_)
  obtain ⟨rfl, h1⟩ := hQ
  have hB := hB.sp (j := 0) rfl 0 rfl h1 (bz_le rfl)
  refine g_ifN_eq (q := 8) (t := 12) dX9_passings_5 rfl (by decide) (by omega) (fun c => absurd c (by omega)) (fun _ => ?_)
  refine g_iconst (q := 9) (v := (nI 0)) dX9_passings_8 rfl (by decide) ?_
  refine g_goto (q := 21) dX9_passings_9 (by decide) ?_
  exact g_iret dX9_passings_21 rfl (⟨rfl, hB⟩)
set_option maxRecDepth 20000 in
set_option maxHeartbeats 1000000 in
theorem c_mpassings0 {l : Launch} {E : bz_E} {L : List Nat} {g : Nat → va_E} {o : Nat} {I : Nat → Int32} {A : Nat → Nat → Int32} {s : Nat} (hs : s < 2) (hH : bz_H L g o (b_Mod E o I A)) : bz_K l E mX9_passings 3 [.ref o, .int (nI s)] L g (fun r g1 => r = some (.int (A 1 (7 + s))) ∧ bz_B L g g1 [(o, b_Mod E o (va_up I 0 (nI 0)) A)]) := by
  refine bz_K.of (by decide) (bz_le rfl) (fun sz => ?_)
  have hB := bz_B.rf (bz_W.one hH)
  show bz_G _ _ _ _ _ _ _ _ _ _ _ _ 0 [(0, .ref o), (1, .int (nI s))] []
  refine g_aload_n (q := 1) dX9_passings_0 rfl rfl ?_
  refine g_iload_n (q := 2) dX9_passings_1 rfl rfl ?_
  refine gb_callV (q := 5) (j := 0) (i := 0) dX9_passings_2 rfl kv_X9_227 (c_mnoSide0 hs (hB.1.at (j := 0) rfl)) rfl (by decide) hB rfl rfl rfl rfl (bz_le rfl) (by decide) (by decide) (fun r g1 hQ => ?_)
  obtain ⟨rfl, h1⟩ := hQ
  have hB := hB.sp (j := 0) rfl 0 rfl h1 (bz_le rfl)
  refine g_ifN_eq (q := 8) (t := 12) dX9_passings_5 rfl (by decide) (by omega) (fun _ => ?_) (fun c => absurd c (by omega))
  refine g_aload_n (q := 13) dX9_passings_12 rfl rfl ?_
  refine gb_getf (q := 16) (j := 0) (i := 0) dX9_passings_13 rfl fl_X9_7 hB rfl rfl rfl rfl ?_
  refine g_bipush (q := 18) (v := (nI 7)) dX9_passings_16 rfl (by decide) ?_
  refine g_iload_n (q := 19) dX9_passings_18 rfl rfl ?_
  refine g_iaddN (q := 20) dX9_passings_19 rfl ?_
  refine gb_ialdN (q := 21) (j := 0) (i := 1) dX9_passings_20 rfl hB rfl rfl rfl (by omega) (by decide) ?_
  exact g_iret dX9_passings_21 rfl (⟨rfl, hB⟩)
set_option maxRecDepth 20000 in
set_option maxHeartbeats 1000000 in
theorem c_mnext1 {l : Launch} {E : bz_E} {L : List Nat} {g : Nat → va_E} {o : Nat} {I : Nat → Int32} {A : Nat → Nat → Int32} {v : Int32} (hb : m_bad v 2 = true) (hH : bz_H L g o (b_Mod E o I A)) : bz_K l E mX9_next 3 [.ref o, .int v] L g (fun r g1 => r = some (.int (nI 0)) ∧ bz_B L g g1 [(o, b_Mod E o (va_up I 0 (nI 1)) A)]) := by
  refine bz_K.of (by decide) (bz_le rfl) (fun sz => ?_)
  have hB := bz_B.rf (bz_W.one hH)
  show bz_G _ _ _ _ _ _ _ _ _ _ _ _ 0 [(0, .ref o), (1, .int v)] []
  refine g_aload_n (q := 1) dX9_next_0 rfl rfl ?_
  refine g_iload_n (q := 2) dX9_next_1 rfl rfl ?_
  refine gb_callV (q := 5) (j := 0) (i := 0) dX9_next_2 rfl kv_X9_227 (c_mnoSide1 hb (hB.1.at (j := 0) rfl)) rfl (by decide) hB rfl rfl rfl rfl (bz_le rfl) (by decide) (by decide) (fun r g1 hQ => ?_)
  obtain ⟨rfl, h1⟩ := hQ
  have hB := hB.sp (j := 0) rfl 0 rfl h1 (bz_le rfl)
  refine g_ifN_eq (q := 8) (t := 12) dX9_next_5 rfl (by decide) (by omega) (fun c => absurd c (by omega)) (fun _ => ?_)
  refine g_iconst (q := 9) (v := (nI 0)) dX9_next_8 rfl (by decide) ?_
  refine g_goto (q := 17) dX9_next_9 (by decide) ?_
  exact g_iret dX9_next_17 rfl (⟨rfl, hB⟩)
set_option maxRecDepth 20000 in
set_option maxHeartbeats 1000000 in
theorem c_mnext0 {l : Launch} {E : bz_E} {L : List Nat} {g : Nat → va_E} {o : Nat} {I : Nat → Int32} {A : Nat → Nat → Int32} {s : Nat} {P P1 : Po} {tb cr : Nat → Nat} (hs : s < 2) (hP : m_sd (A 1) s P) (hP1 : m_sd (A 1) (1 - s) P1) (hc : ∀ k, k < 4 → A 3 (4 * (1 - s) + k) = nI (cr k) ∧ cr k ≤ 8) (ht : ∀ i, i < 16 → A 4 i = nI (tb i) ∧ tb i ≤ 1) (hH : bz_H L g o (b_Mod E o I A)) : bz_K l E mX9_next 3 [.ref o, .int (nI s)] L g (fun r g1 => r = some (.int (match (s_next tb cr P1.2.1 [] P.1) with | some i => nI i | none => -1)) ∧ bz_B L g g1 [(o, b_Mod E o (va_up I 0 (nI 0)) A)]) := by
  refine bz_K.of (by decide) (bz_le rfl) (fun sz => ?_)
  have hB := bz_B.rf (bz_W.one hH)
  show bz_G _ _ _ _ _ _ _ _ _ _ _ _ 0 [(0, .ref o), (1, .int (nI s))] []
  refine g_aload_n (q := 1) dX9_next_0 rfl rfl ?_
  refine g_iload_n (q := 2) dX9_next_1 rfl rfl ?_
  refine gb_callV (q := 5) (j := 0) (i := 0) dX9_next_2 rfl kv_X9_227 (c_mnoSide0 hs (hB.1.at (j := 0) rfl)) rfl (by decide) hB rfl rfl rfl rfl (bz_le rfl) (by decide) (by decide) (fun r g1 hQ => ?_)
  obtain ⟨rfl, h1⟩ := hQ
  have hB := hB.sp (j := 0) rfl 0 rfl h1 (bz_le rfl)
  refine g_ifN_eq (q := 8) (t := 12) dX9_next_5 rfl (by decide) (by omega) (fun _ => ?_) (fun c => absurd c (by omega))
  refine g_aload_n (q := 13) dX9_next_12 rfl rfl ?_
  refine g_iload_n (q := 14) dX9_next_13 rfl rfl ?_
  refine gb_callV (q := 17) (j := 0) (i := 0) dX9_next_14 rfl kv_X9_246 (c_mnextOf (I := va_up I 0 (nI 0)) (A := A) (P := P) (P1 := P1) (tb := tb) (cr := cr) hs hP hP1 hc ht (hB.1.at (j := 0) rfl)) rfl (by decide) hB rfl rfl rfl rfl (bz_le rfl) (by decide) (by decide) (fun r g1 hQ => ?_)
  obtain ⟨rfl, hg⟩ := hQ
  have hg := hg.symm
  subst hg
  exact g_iret dX9_next_17 rfl (⟨rfl, hB⟩)
set_option maxRecDepth 20000 in
set_option maxHeartbeats 1000000 in
theorem c_mkindAt2 {l : Launch} {E : bz_E} {L : List Nat} {g : Nat → va_E} {o : Nat} {I : Nat → Int32} {A : Nat → Nat → Int32} {v w : Int32} (hb : m_bad v 2 = true) (hH : bz_H L g o (b_Mod E o I A)) : bz_K l E mX9_kindAt 4 [.ref o, .int v, .int w] L g (fun r g1 => r = some (.int (nI 0)) ∧ bz_B L g g1 [(o, b_Mod E o (va_up I 0 (nI 1)) A)]) := by
  refine bz_K.of (by decide) (bz_le rfl) (fun sz => ?_)
  have hB := bz_B.rf (bz_W.one hH)
  show bz_G _ _ _ _ _ _ _ _ _ _ _ _ 0 [(0, .ref o), (1, .int v), (2, .int w)] []
  refine g_aload_n (q := 1) dX9_kindAt_0 rfl rfl ?_
  refine g_iload_n (q := 2) dX9_kindAt_1 rfl rfl ?_
  refine g_iload_n (q := 3) dX9_kindAt_2 rfl rfl ?_
  refine gb_callV (q := 6) (j := 0) (i := 0) dX9_kindAt_3 rfl kv_X9_230 (c_mnoPosition2 hb (hB.1.at (j := 0) rfl)) rfl (by decide) hB rfl rfl rfl rfl (bz_le rfl) (by decide) (by decide) (fun r g1 hQ => ?_)
  obtain ⟨rfl, h1⟩ := hQ
  have hB := hB.sp (j := 0) rfl 0 rfl h1 (bz_le rfl)
  refine g_ifN_eq (q := 9) (t := 13) dX9_kindAt_6 rfl (by decide) (by omega) (fun c => absurd c (by omega)) (fun _ => ?_)
  refine g_iconst (q := 10) (v := (nI 0)) dX9_kindAt_9 rfl (by decide) ?_
  refine g_goto (q := 25) dX9_kindAt_10 (by decide) ?_
  exact g_iret dX9_kindAt_25 rfl (⟨rfl, hB⟩)
set_option maxRecDepth 20000 in
set_option maxHeartbeats 1000000 in
theorem c_mkindAt1 {l : Launch} {E : bz_E} {L : List Nat} {g : Nat → va_E} {o : Nat} {I : Nat → Int32} {A : Nat → Nat → Int32} {s m : Nat} {v : Int32} (hs : s < 2) (hr : A 1 (1 + s) = nI m) (hb : m_bad v m = true) (hH : bz_H L g o (b_Mod E o I A)) : bz_K l E mX9_kindAt 4 [.ref o, .int (nI s), .int v] L g (fun r g1 => r = some (.int (nI 0)) ∧ bz_B L g g1 [(o, b_Mod E o (va_up I 0 (nI 1)) A)]) := by
  refine bz_K.of (by decide) (bz_le rfl) (fun sz => ?_)
  have hB := bz_B.rf (bz_W.one hH)
  show bz_G _ _ _ _ _ _ _ _ _ _ _ _ 0 [(0, .ref o), (1, .int (nI s)), (2, .int v)] []
  refine g_aload_n (q := 1) dX9_kindAt_0 rfl rfl ?_
  refine g_iload_n (q := 2) dX9_kindAt_1 rfl rfl ?_
  refine g_iload_n (q := 3) dX9_kindAt_2 rfl rfl ?_
  refine gb_callV (q := 6) (j := 0) (i := 0) dX9_kindAt_3 rfl kv_X9_230 (c_mnoPosition1 hs hr hb (hB.1.at (j := 0) rfl)) rfl (by decide) hB rfl rfl rfl rfl (bz_le rfl) (by decide) (by decide) (fun r g1 hQ => ?_)
  obtain ⟨rfl, h1⟩ := hQ
  have hB := hB.sp (j := 0) rfl 0 rfl h1 (bz_le rfl)
  refine g_ifN_eq (q := 9) (t := 13) dX9_kindAt_6 rfl (by decide) (by omega) (fun c => absurd c (by omega)) (fun _ => ?_)
  refine g_iconst (q := 10) (v := (nI 0)) dX9_kindAt_9 rfl (by decide) ?_
  refine g_goto (q := 25) dX9_kindAt_10 (by decide) ?_
  exact g_iret dX9_kindAt_25 rfl (⟨rfl, hB⟩)
set_option maxRecDepth 20000 in
set_option maxHeartbeats 1000000 in
theorem c_mkindAt0 {l : Launch} {E : bz_E} {L : List Nat} {g : Nat → va_E} {o : Nat} {I : Nat → Int32} {A : Nat → Nat → Int32} {s m k : Nat} (hs : s < 2) (hr : A 1 (1 + s) = nI m) (hk : k < m) (hm : m < 2 ^ 31) (hm32 : m ≤ 32) (hH : bz_H L g o (b_Mod E o I A)) : bz_K l E mX9_kindAt 4 [.ref o, .int (nI s), .int (nI k)] L g (fun r g1 => r = some (.int (A 1 (155 + 480 * s + 15 * k + 0))) ∧ bz_B L g g1 [(o, b_Mod E o (va_up I 0 (nI 0)) A)]) := by
  refine bz_K.of (by decide) (bz_le rfl) (fun sz => ?_)
  have hB := bz_B.rf (bz_W.one hH)
  show bz_G _ _ _ _ _ _ _ _ _ _ _ _ 0 [(0, .ref o), (1, .int (nI s)), (2, .int (nI k))] []
  refine g_aload_n (q := 1) dX9_kindAt_0 rfl rfl ?_
  refine g_iload_n (q := 2) dX9_kindAt_1 rfl rfl ?_
  refine g_iload_n (q := 3) dX9_kindAt_2 rfl rfl ?_
  refine gb_callV (q := 6) (j := 0) (i := 0) dX9_kindAt_3 rfl kv_X9_230 (c_mnoPosition0 hs hr hk hm (hB.1.at (j := 0) rfl)) rfl (by decide) hB rfl rfl rfl rfl (bz_le rfl) (by decide) (by decide) (fun r g1 hQ => ?_)
  obtain ⟨rfl, h1⟩ := hQ
  have hB := hB.sp (j := 0) rfl 0 rfl h1 (bz_le rfl)
  refine g_ifN_eq (q := 9) (t := 13) dX9_kindAt_6 rfl (by decide) (by omega) (fun _ => ?_) (fun c => absurd c (by omega))
  refine g_aload_n (q := 14) dX9_kindAt_13 rfl rfl ?_
  refine gb_getf (q := 17) (j := 0) (i := 0) dX9_kindAt_14 rfl fl_X9_7 hB rfl rfl rfl rfl ?_
  refine g_iload_n (q := 18) dX9_kindAt_17 rfl rfl ?_
  refine g_iload_n (q := 19) dX9_kindAt_18 rfl rfl ?_
  refine g_callS (q := 22) dX9_kindAt_19 rfl ks_X9_233 rfl (c_waits (s := s) (k := k)) (by decide) rfl (bz_le rfl) (by decide) (by decide) (fun r g1 hQ => ?_)
  obtain ⟨rfl, hg⟩ := hQ
  have hg := hg.symm
  subst hg
  refine g_iconst (q := 23) (v := (nI 0)) dX9_kindAt_22 rfl (by decide) ?_
  refine g_iaddN (q := 24) dX9_kindAt_23 rfl ?_
  refine gb_ialdN (q := 25) (j := 0) (i := 1) dX9_kindAt_24 rfl hB rfl rfl rfl (by omega) (by decide) ?_
  exact g_iret dX9_kindAt_25 rfl (⟨rfl, hB⟩)
set_option maxRecDepth 20000 in
set_option maxHeartbeats 1000000 in
theorem c_mtagAt2 {l : Launch} {E : bz_E} {L : List Nat} {g : Nat → va_E} {o : Nat} {I : Nat → Int32} {A : Nat → Nat → Int32} {v w : Int32} (hb : m_bad v 2 = true) (hH : bz_H L g o (b_Mod E o I A)) : bz_K l E mX9_tagAt 4 [.ref o, .int v, .int w] L g (fun r g1 => r = some (.int (nI 0)) ∧ bz_B L g g1 [(o, b_Mod E o (va_up I 0 (nI 1)) A)]) := by
  refine bz_K.of (by decide) (bz_le rfl) (fun sz => ?_)
  have hB := bz_B.rf (bz_W.one hH)
  show bz_G _ _ _ _ _ _ _ _ _ _ _ _ 0 [(0, .ref o), (1, .int v), (2, .int w)] []
  refine g_aload_n (q := 1) dX9_tagAt_0 rfl rfl ?_
  refine g_iload_n (q := 2) dX9_tagAt_1 rfl rfl ?_
  refine g_iload_n (q := 3) dX9_tagAt_2 rfl rfl ?_
  refine gb_callV (q := 6) (j := 0) (i := 0) dX9_tagAt_3 rfl kv_X9_230 (c_mnoPosition2 hb (hB.1.at (j := 0) rfl)) rfl (by decide) hB rfl rfl rfl rfl (bz_le rfl) (by decide) (by decide) (fun r g1 hQ => ?_)
  obtain ⟨rfl, h1⟩ := hQ
  have hB := hB.sp (j := 0) rfl 0 rfl h1 (bz_le rfl)
  refine g_ifN_eq (q := 9) (t := 13) dX9_tagAt_6 rfl (by decide) (by omega) (fun c => absurd c (by omega)) (fun _ => ?_)
  refine g_iconst (q := 10) (v := (nI 0)) dX9_tagAt_9 rfl (by decide) ?_
  refine g_goto (q := 25) dX9_tagAt_10 (by decide) ?_
  exact g_iret dX9_tagAt_25 rfl (⟨rfl, hB⟩)
set_option maxRecDepth 20000 in
set_option maxHeartbeats 1000000 in
theorem c_mtagAt1 {l : Launch} {E : bz_E} {L : List Nat} {g : Nat → va_E} {o : Nat} {I : Nat → Int32} {A : Nat → Nat → Int32} {s m : Nat} {v : Int32} (hs : s < 2) (hr : A 1 (1 + s) = nI m) (hb : m_bad v m = true) (hH : bz_H L g o (b_Mod E o I A)) : bz_K l E mX9_tagAt 4 [.ref o, .int (nI s), .int v] L g (fun r g1 => r = some (.int (nI 0)) ∧ bz_B L g g1 [(o, b_Mod E o (va_up I 0 (nI 1)) A)]) := by
  refine bz_K.of (by decide) (bz_le rfl) (fun sz => ?_)
  have hB := bz_B.rf (bz_W.one hH)
  show bz_G _ _ _ _ _ _ _ _ _ _ _ _ 0 [(0, .ref o), (1, .int (nI s)), (2, .int v)] []
  refine g_aload_n (q := 1) dX9_tagAt_0 rfl rfl ?_
  refine g_iload_n (q := 2) dX9_tagAt_1 rfl rfl ?_
  refine g_iload_n (q := 3) dX9_tagAt_2 rfl rfl ?_
  refine gb_callV (q := 6) (j := 0) (i := 0) dX9_tagAt_3 rfl kv_X9_230 (c_mnoPosition1 hs hr hb (hB.1.at (j := 0) rfl)) rfl (by decide) hB rfl rfl rfl rfl (bz_le rfl) (by decide) (by decide) (fun r g1 hQ => ?_)
  obtain ⟨rfl, h1⟩ := hQ
  have hB := hB.sp (j := 0) rfl 0 rfl h1 (bz_le rfl)
  refine g_ifN_eq (q := 9) (t := 13) dX9_tagAt_6 rfl (by decide) (by omega) (fun c => absurd c (by omega)) (fun _ => ?_)
  refine g_iconst (q := 10) (v := (nI 0)) dX9_tagAt_9 rfl (by decide) ?_
  refine g_goto (q := 25) dX9_tagAt_10 (by decide) ?_
  exact g_iret dX9_tagAt_25 rfl (⟨rfl, hB⟩)
set_option maxRecDepth 20000 in
set_option maxHeartbeats 1000000 in
theorem c_mtagAt0 {l : Launch} {E : bz_E} {L : List Nat} {g : Nat → va_E} {o : Nat} {I : Nat → Int32} {A : Nat → Nat → Int32} {s m k : Nat} (hs : s < 2) (hr : A 1 (1 + s) = nI m) (hk : k < m) (hm : m < 2 ^ 31) (hm32 : m ≤ 32) (hH : bz_H L g o (b_Mod E o I A)) : bz_K l E mX9_tagAt 4 [.ref o, .int (nI s), .int (nI k)] L g (fun r g1 => r = some (.int (A 1 (155 + 480 * s + 15 * k + 1))) ∧ bz_B L g g1 [(o, b_Mod E o (va_up I 0 (nI 0)) A)]) := by
  refine bz_K.of (by decide) (bz_le rfl) (fun sz => ?_)
  have hB := bz_B.rf (bz_W.one hH)
  show bz_G _ _ _ _ _ _ _ _ _ _ _ _ 0 [(0, .ref o), (1, .int (nI s)), (2, .int (nI k))] []
  refine g_aload_n (q := 1) dX9_tagAt_0 rfl rfl ?_
  refine g_iload_n (q := 2) dX9_tagAt_1 rfl rfl ?_
  refine g_iload_n (q := 3) dX9_tagAt_2 rfl rfl ?_
  refine gb_callV (q := 6) (j := 0) (i := 0) dX9_tagAt_3 rfl kv_X9_230 (c_mnoPosition0 hs hr hk hm (hB.1.at (j := 0) rfl)) rfl (by decide) hB rfl rfl rfl rfl (bz_le rfl) (by decide) (by decide) (fun r g1 hQ => ?_)
  obtain ⟨rfl, h1⟩ := hQ
  have hB := hB.sp (j := 0) rfl 0 rfl h1 (bz_le rfl)
  refine g_ifN_eq (q := 9) (t := 13) dX9_tagAt_6 rfl (by decide) (by omega) (fun _ => ?_) (fun c => absurd c (by omega))
  refine g_aload_n (q := 14) dX9_tagAt_13 rfl rfl ?_
  refine gb_getf (q := 17) (j := 0) (i := 0) dX9_tagAt_14 rfl fl_X9_7 hB rfl rfl rfl rfl ?_
  refine g_iload_n (q := 18) dX9_tagAt_17 rfl rfl ?_
  refine g_iload_n (q := 19) dX9_tagAt_18 rfl rfl ?_
  refine g_callS (q := 22) dX9_tagAt_19 rfl ks_X9_233 rfl (c_waits (s := s) (k := k)) (by decide) rfl (bz_le rfl) (by decide) (by decide) (fun r g1 hQ => ?_)
  obtain ⟨rfl, hg⟩ := hQ
  have hg := hg.symm
  subst hg
  refine g_iconst (q := 23) (v := (nI 1)) dX9_tagAt_22 rfl (by decide) ?_
  refine g_iaddN (q := 24) dX9_tagAt_23 rfl ?_
  refine gb_ialdN (q := 25) (j := 0) (i := 1) dX9_tagAt_24 rfl hB rfl rfl rfl (by omega) (by decide) ?_
  exact g_iret dX9_tagAt_25 rfl (⟨rfl, hB⟩)
set_option maxRecDepth 20000 in
set_option maxHeartbeats 1000000 in
theorem c_mtagState2 {l : Launch} {E : bz_E} {L : List Nat} {g : Nat → va_E} {o : Nat} {I : Nat → Int32} {A : Nat → Nat → Int32} {v w : Int32} (hb : m_bad v 2 = true) (hH : bz_H L g o (b_Mod E o I A)) : bz_K l E mX9_tagState 4 [.ref o, .int v, .int w] L g (fun r g1 => r = some (.int (nI 0)) ∧ bz_B L g g1 [(o, b_Mod E o (va_up I 0 (nI 1)) A)]) := by
  refine bz_K.of (by decide) (bz_le rfl) (fun sz => ?_)
  have hB := bz_B.rf (bz_W.one hH)
  show bz_G _ _ _ _ _ _ _ _ _ _ _ _ 0 [(0, .ref o), (1, .int v), (2, .int w)] []
  refine g_aload_n (q := 1) dX9_tagState_0 rfl rfl ?_
  refine g_iload_n (q := 2) dX9_tagState_1 rfl rfl ?_
  refine g_iload_n (q := 3) dX9_tagState_2 rfl rfl ?_
  refine gb_callV (q := 6) (j := 0) (i := 0) dX9_tagState_3 rfl kv_X9_249 (c_mnoTag2 hb (hB.1.at (j := 0) rfl)) rfl (by decide) hB rfl rfl rfl rfl (bz_le rfl) (by decide) (by decide) (fun r g1 hQ => ?_)
  obtain ⟨rfl, h1⟩ := hQ
  have hB := hB.sp (j := 0) rfl 0 rfl h1 (bz_le rfl)
  refine g_ifN_eq (q := 9) (t := 13) dX9_tagState_6 rfl (by decide) (by omega) (fun c => absurd c (by omega)) (fun _ => ?_)
  refine g_iconst (q := 10) (v := (nI 0)) dX9_tagState_9 rfl (by decide) ?_
  refine g_goto (q := 25) dX9_tagState_10 (by decide) ?_
  exact g_iret dX9_tagState_25 rfl (⟨rfl, hB⟩)
set_option maxRecDepth 20000 in
set_option maxHeartbeats 1000000 in
theorem c_mtagState1 {l : Launch} {E : bz_E} {L : List Nat} {g : Nat → va_E} {o : Nat} {I : Nat → Int32} {A : Nat → Nat → Int32} {s m : Nat} {v : Int32} (hs : s < 2) (hr : A 6 1 = nI m) (hb : m_bad v m = true) (hH : bz_H L g o (b_Mod E o I A)) : bz_K l E mX9_tagState 4 [.ref o, .int (nI s), .int v] L g (fun r g1 => r = some (.int (nI 0)) ∧ bz_B L g g1 [(o, b_Mod E o (va_up I 0 (nI 1)) A)]) := by
  refine bz_K.of (by decide) (bz_le rfl) (fun sz => ?_)
  have hB := bz_B.rf (bz_W.one hH)
  show bz_G _ _ _ _ _ _ _ _ _ _ _ _ 0 [(0, .ref o), (1, .int (nI s)), (2, .int v)] []
  refine g_aload_n (q := 1) dX9_tagState_0 rfl rfl ?_
  refine g_iload_n (q := 2) dX9_tagState_1 rfl rfl ?_
  refine g_iload_n (q := 3) dX9_tagState_2 rfl rfl ?_
  refine gb_callV (q := 6) (j := 0) (i := 0) dX9_tagState_3 rfl kv_X9_249 (c_mnoTag1 hs hr hb (hB.1.at (j := 0) rfl)) rfl (by decide) hB rfl rfl rfl rfl (bz_le rfl) (by decide) (by decide) (fun r g1 hQ => ?_)
  obtain ⟨rfl, h1⟩ := hQ
  have hB := hB.sp (j := 0) rfl 0 rfl h1 (bz_le rfl)
  refine g_ifN_eq (q := 9) (t := 13) dX9_tagState_6 rfl (by decide) (by omega) (fun c => absurd c (by omega)) (fun _ => ?_)
  refine g_iconst (q := 10) (v := (nI 0)) dX9_tagState_9 rfl (by decide) ?_
  refine g_goto (q := 25) dX9_tagState_10 (by decide) ?_
  exact g_iret dX9_tagState_25 rfl (⟨rfl, hB⟩)
set_option maxRecDepth 20000 in
set_option maxHeartbeats 1000000 in
theorem c_mtagState0 {l : Launch} {E : bz_E} {L : List Nat} {g : Nat → va_E} {o : Nat} {I : Nat → Int32} {A : Nat → Nat → Int32} {s m k : Nat} (hs : s < 2) (hr : A 6 1 = nI m) (hk : k < m) (hm : m < 2 ^ 31) (hm8 : m ≤ 8) (hH : bz_H L g o (b_Mod E o I A)) : bz_K l E mX9_tagState 4 [.ref o, .int (nI s), .int (nI k)] L g (fun r g1 => r = some (.int (A 1 (43 + 7 * (8 * s + k) + 0))) ∧ bz_B L g g1 [(o, b_Mod E o (va_up I 0 (nI 0)) A)]) := by
  refine bz_K.of (by decide) (bz_le rfl) (fun sz => ?_)
  have hB := bz_B.rf (bz_W.one hH)
  show bz_G _ _ _ _ _ _ _ _ _ _ _ _ 0 [(0, .ref o), (1, .int (nI s)), (2, .int (nI k))] []
  refine g_aload_n (q := 1) dX9_tagState_0 rfl rfl ?_
  refine g_iload_n (q := 2) dX9_tagState_1 rfl rfl ?_
  refine g_iload_n (q := 3) dX9_tagState_2 rfl rfl ?_
  refine gb_callV (q := 6) (j := 0) (i := 0) dX9_tagState_3 rfl kv_X9_249 (c_mnoTag0 hs hr hk hm (hB.1.at (j := 0) rfl)) rfl (by decide) hB rfl rfl rfl rfl (bz_le rfl) (by decide) (by decide) (fun r g1 hQ => ?_)
  obtain ⟨rfl, h1⟩ := hQ
  have hB := hB.sp (j := 0) rfl 0 rfl h1 (bz_le rfl)
  refine g_ifN_eq (q := 9) (t := 13) dX9_tagState_6 rfl (by decide) (by omega) (fun _ => ?_) (fun c => absurd c (by omega))
  refine g_aload_n (q := 14) dX9_tagState_13 rfl rfl ?_
  refine gb_getf (q := 17) (j := 0) (i := 0) dX9_tagState_14 rfl fl_X9_7 hB rfl rfl rfl rfl ?_
  refine g_iload_n (q := 18) dX9_tagState_17 rfl rfl ?_
  refine g_iload_n (q := 19) dX9_tagState_18 rfl rfl ?_
  refine g_callS (q := 22) dX9_tagState_19 rfl ks_X9_252 rfl (c_tagged (s := s) (k := k)) (by decide) rfl (bz_le rfl) (by decide) (by decide) (fun r g1 hQ => ?_)
  obtain ⟨rfl, hg⟩ := hQ
  have hg := hg.symm
  subst hg
  refine g_iconst (q := 23) (v := (nI 0)) dX9_tagState_22 rfl (by decide) ?_
  refine g_iaddN (q := 24) dX9_tagState_23 rfl ?_
  refine gb_ialdN (q := 25) (j := 0) (i := 1) dX9_tagState_24 rfl hB rfl rfl rfl (by omega) (by decide) ?_
  exact g_iret dX9_tagState_25 rfl (⟨rfl, hB⟩)
set_option maxRecDepth 20000 in
set_option maxHeartbeats 1000000 in
theorem c_mstored2 {l : Launch} {E : bz_E} {L : List Nat} {g : Nat → va_E} {o : Nat} {I : Nat → Int32} {A : Nat → Nat → Int32} {v w : Int32} (hb : m_bad v 2 = true) (hH : bz_H L g o (b_Mod E o I A)) : bz_K l E mX9_stored 4 [.ref o, .int v, .int w] L g (fun r g1 => r = some (.int (nI 0)) ∧ bz_B L g g1 [(o, b_Mod E o (va_up I 0 (nI 1)) A)]) := by
  refine bz_K.of (by decide) (bz_le rfl) (fun sz => ?_)
  have hB := bz_B.rf (bz_W.one hH)
  show bz_G _ _ _ _ _ _ _ _ _ _ _ _ 0 [(0, .ref o), (1, .int v), (2, .int w)] []
  refine g_aload_n (q := 1) dX9_stored_0 rfl rfl ?_
  refine g_iload_n (q := 2) dX9_stored_1 rfl rfl ?_
  refine g_iload_n (q := 3) dX9_stored_2 rfl rfl ?_
  refine gb_callV (q := 6) (j := 0) (i := 0) dX9_stored_3 rfl kv_X9_249 (c_mnoTag2 hb (hB.1.at (j := 0) rfl)) rfl (by decide) hB rfl rfl rfl rfl (bz_le rfl) (by decide) (by decide) (fun r g1 hQ => ?_)
  obtain ⟨rfl, h1⟩ := hQ
  have hB := hB.sp (j := 0) rfl 0 rfl h1 (bz_le rfl)
  refine g_ifN_eq (q := 9) (t := 13) dX9_stored_6 rfl (by decide) (by omega) (fun c => absurd c (by omega)) (fun _ => ?_)
  refine g_iconst (q := 10) (v := (nI 0)) dX9_stored_9 rfl (by decide) ?_
  refine g_goto (q := 28) dX9_stored_10 (by decide) ?_
  exact g_iret dX9_stored_28 rfl (⟨rfl, hB⟩)
set_option maxRecDepth 20000 in
set_option maxHeartbeats 1000000 in
theorem c_mstored1 {l : Launch} {E : bz_E} {L : List Nat} {g : Nat → va_E} {o : Nat} {I : Nat → Int32} {A : Nat → Nat → Int32} {s m : Nat} {v : Int32} (hs : s < 2) (hr : A 6 1 = nI m) (hb : m_bad v m = true) (hH : bz_H L g o (b_Mod E o I A)) : bz_K l E mX9_stored 4 [.ref o, .int (nI s), .int v] L g (fun r g1 => r = some (.int (nI 0)) ∧ bz_B L g g1 [(o, b_Mod E o (va_up I 0 (nI 1)) A)]) := by
  refine bz_K.of (by decide) (bz_le rfl) (fun sz => ?_)
  have hB := bz_B.rf (bz_W.one hH)
  show bz_G _ _ _ _ _ _ _ _ _ _ _ _ 0 [(0, .ref o), (1, .int (nI s)), (2, .int v)] []
  refine g_aload_n (q := 1) dX9_stored_0 rfl rfl ?_
  refine g_iload_n (q := 2) dX9_stored_1 rfl rfl ?_
  refine g_iload_n (q := 3) dX9_stored_2 rfl rfl ?_
  refine gb_callV (q := 6) (j := 0) (i := 0) dX9_stored_3 rfl kv_X9_249 (c_mnoTag1 hs hr hb (hB.1.at (j := 0) rfl)) rfl (by decide) hB rfl rfl rfl rfl (bz_le rfl) (by decide) (by decide) (fun r g1 hQ => ?_)
  obtain ⟨rfl, h1⟩ := hQ
  have hB := hB.sp (j := 0) rfl 0 rfl h1 (bz_le rfl)
  refine g_ifN_eq (q := 9) (t := 13) dX9_stored_6 rfl (by decide) (by omega) (fun c => absurd c (by omega)) (fun _ => ?_)
  refine g_iconst (q := 10) (v := (nI 0)) dX9_stored_9 rfl (by decide) ?_
  refine g_goto (q := 28) dX9_stored_10 (by decide) ?_
  exact g_iret dX9_stored_28 rfl (⟨rfl, hB⟩)
set_option maxRecDepth 20000 in
set_option maxHeartbeats 1000000 in
theorem c_mstored0 {l : Launch} {E : bz_E} {L : List Nat} {g : Nat → va_E} {o : Nat} {I : Nat → Int32} {A : Nat → Nat → Int32} {s m k : Nat} {b : Nat} (hs : s < 2) (hr : A 6 1 = nI m) (hk : k < m) (hm : m < 2 ^ 31) (hm8 : m ≤ 8) (hb : A 1 (43 + 7 * (8 * s + k) + 2) = nI b) (hb16 : b < 16) (hH : bz_H L g o (b_Mod E o I A)) : bz_K l E mX9_stored 4 [.ref o, .int (nI s), .int (nI k)] L g (fun r g1 => r = some (.int (nI (v_pc b))) ∧ bz_B L g g1 [(o, b_Mod E o (va_up I 0 (nI 0)) A)]) := by
  refine bz_K.of (by decide) (bz_le rfl) (fun sz => ?_)
  have hB := bz_B.rf (bz_W.one hH)
  show bz_G _ _ _ _ _ _ _ _ _ _ _ _ 0 [(0, .ref o), (1, .int (nI s)), (2, .int (nI k))] []
  refine g_aload_n (q := 1) dX9_stored_0 rfl rfl ?_
  refine g_iload_n (q := 2) dX9_stored_1 rfl rfl ?_
  refine g_iload_n (q := 3) dX9_stored_2 rfl rfl ?_
  refine gb_callV (q := 6) (j := 0) (i := 0) dX9_stored_3 rfl kv_X9_249 (c_mnoTag0 hs hr hk hm (hB.1.at (j := 0) rfl)) rfl (by decide) hB rfl rfl rfl rfl (bz_le rfl) (by decide) (by decide) (fun r g1 hQ => ?_)
  obtain ⟨rfl, h1⟩ := hQ
  have hB := hB.sp (j := 0) rfl 0 rfl h1 (bz_le rfl)
  refine g_ifN_eq (q := 9) (t := 13) dX9_stored_6 rfl (by decide) (by omega) (fun _ => ?_) (fun c => absurd c (by omega))
  refine g_aload_n (q := 14) dX9_stored_13 rfl rfl ?_
  refine gb_getf (q := 17) (j := 0) (i := 0) dX9_stored_14 rfl fl_X9_7 hB rfl rfl rfl rfl ?_
  refine g_iload_n (q := 18) dX9_stored_17 rfl rfl ?_
  refine g_iload_n (q := 19) dX9_stored_18 rfl rfl ?_
  refine g_callS (q := 22) dX9_stored_19 rfl ks_X9_252 rfl (c_tagged (s := s) (k := k)) (by decide) rfl (bz_le rfl) (by decide) (by decide) (fun r g1 hQ => ?_)
  obtain ⟨rfl, hg⟩ := hQ
  have hg := hg.symm
  subst hg
  refine g_iconst (q := 23) (v := (nI 2)) dX9_stored_22 rfl (by decide) ?_
  refine g_iaddN (q := 24) dX9_stored_23 rfl ?_
  refine gb_ialdN (q := 25) (j := 0) (i := 1) dX9_stored_24 rfl hB rfl rfl rfl (by omega) (by decide) ?_
  refine g_eqi (v := nI (b)) (hb) ?_
  refine g_callS (q := 28) dX9_stored_25 rfl ks_X9_255 rfl (c_mbits hb16) (by decide) rfl (bz_le rfl) (by decide) (by decide) (fun r g1 hQ => ?_)
  obtain ⟨rfl, hg⟩ := hQ
  have hg := hg.symm
  subst hg
  exact g_iret dX9_stored_28 rfl (⟨rfl, hB⟩)
set_option maxRecDepth 20000 in
set_option maxHeartbeats 1000000 in
theorem c_mblockers2 {l : Launch} {E : bz_E} {L : List Nat} {g : Nat → va_E} {o : Nat} {I : Nat → Int32} {A : Nat → Nat → Int32} {v w : Int32} (hb : m_bad v 2 = true) (hH : bz_H L g o (b_Mod E o I A)) : bz_K l E mX9_blockers 4 [.ref o, .int v, .int w] L g (fun r g1 => r = some (.int (nI 0)) ∧ bz_B L g g1 [(o, b_Mod E o (va_up I 0 (nI 1)) A)]) := by
  refine bz_K.of (by decide) (bz_le rfl) (fun sz => ?_)
  have hB := bz_B.rf (bz_W.one hH)
  show bz_G _ _ _ _ _ _ _ _ _ _ _ _ 0 [(0, .ref o), (1, .int v), (2, .int w)] []
  refine g_aload_n (q := 1) dX9_blockers_0 rfl rfl ?_
  refine g_iload_n (q := 2) dX9_blockers_1 rfl rfl ?_
  refine g_iload_n (q := 3) dX9_blockers_2 rfl rfl ?_
  refine gb_callV (q := 6) (j := 0) (i := 0) dX9_blockers_3 rfl kv_X9_230 (c_mnoPosition2 hb (hB.1.at (j := 0) rfl)) rfl (by decide) hB rfl rfl rfl rfl (bz_le rfl) (by decide) (by decide) (fun r g1 hQ => ?_)
  obtain ⟨rfl, h1⟩ := hQ
  have hB := hB.sp (j := 0) rfl 0 rfl h1 (bz_le rfl)
  refine g_ifN_eq (q := 9) (t := 13) dX9_blockers_6 rfl (by decide) (by omega) (fun c => absurd c (by omega)) (fun _ => ?_)
  refine g_iconst (q := 10) (v := (nI 0)) dX9_blockers_9 rfl (by decide) ?_
  refine g_goto (q := 19) dX9_blockers_10 (by decide) ?_
  exact g_iret dX9_blockers_19 rfl (⟨rfl, hB⟩)
set_option maxRecDepth 20000 in
set_option maxHeartbeats 1000000 in
theorem c_mblockers1 {l : Launch} {E : bz_E} {L : List Nat} {g : Nat → va_E} {o : Nat} {I : Nat → Int32} {A : Nat → Nat → Int32} {s m : Nat} {v : Int32} (hs : s < 2) (hr : A 1 (1 + s) = nI m) (hb : m_bad v m = true) (hH : bz_H L g o (b_Mod E o I A)) : bz_K l E mX9_blockers 4 [.ref o, .int (nI s), .int v] L g (fun r g1 => r = some (.int (nI 0)) ∧ bz_B L g g1 [(o, b_Mod E o (va_up I 0 (nI 1)) A)]) := by
  refine bz_K.of (by decide) (bz_le rfl) (fun sz => ?_)
  have hB := bz_B.rf (bz_W.one hH)
  show bz_G _ _ _ _ _ _ _ _ _ _ _ _ 0 [(0, .ref o), (1, .int (nI s)), (2, .int v)] []
  refine g_aload_n (q := 1) dX9_blockers_0 rfl rfl ?_
  refine g_iload_n (q := 2) dX9_blockers_1 rfl rfl ?_
  refine g_iload_n (q := 3) dX9_blockers_2 rfl rfl ?_
  refine gb_callV (q := 6) (j := 0) (i := 0) dX9_blockers_3 rfl kv_X9_230 (c_mnoPosition1 hs hr hb (hB.1.at (j := 0) rfl)) rfl (by decide) hB rfl rfl rfl rfl (bz_le rfl) (by decide) (by decide) (fun r g1 hQ => ?_)
  obtain ⟨rfl, h1⟩ := hQ
  have hB := hB.sp (j := 0) rfl 0 rfl h1 (bz_le rfl)
  refine g_ifN_eq (q := 9) (t := 13) dX9_blockers_6 rfl (by decide) (by omega) (fun c => absurd c (by omega)) (fun _ => ?_)
  refine g_iconst (q := 10) (v := (nI 0)) dX9_blockers_9 rfl (by decide) ?_
  refine g_goto (q := 19) dX9_blockers_10 (by decide) ?_
  exact g_iret dX9_blockers_19 rfl (⟨rfl, hB⟩)
set_option maxRecDepth 20000 in
set_option maxHeartbeats 1000000 in
theorem c_mblockers0 {l : Launch} {E : bz_E} {L : List Nat} {g : Nat → va_E} {o : Nat} {I : Nat → Int32} {A : Nat → Nat → Int32} {s m k : Nat} {P : Po} {x : Tx} {tb : Nat → Nat} (hs : s < 2) (hr : A 1 (1 + s) = nI m) (hk : k < m) (hm : m < 2 ^ 31) (hP : m_sd (A 1) s P) (hpx : P.1[k]? = some x) (ht : ∀ i, i < 16 → A 4 i = nI (tb i) ∧ tb i ≤ 1) (hH : bz_H L g o (b_Mod E o I A)) : bz_K l E mX9_blockers 4 [.ref o, .int (nI s), .int (nI k)] L g (fun r g1 => r = some (.int (s_bset tb x P.1 k)) ∧ bz_B L g g1 [(o, b_Mod E o (va_up I 0 (nI 0)) A)]) := by
  refine bz_K.of (by decide) (bz_le rfl) (fun sz => ?_)
  have hB := bz_B.rf (bz_W.one hH)
  show bz_G _ _ _ _ _ _ _ _ _ _ _ _ 0 [(0, .ref o), (1, .int (nI s)), (2, .int (nI k))] []
  refine g_aload_n (q := 1) dX9_blockers_0 rfl rfl ?_
  refine g_iload_n (q := 2) dX9_blockers_1 rfl rfl ?_
  refine g_iload_n (q := 3) dX9_blockers_2 rfl rfl ?_
  refine gb_callV (q := 6) (j := 0) (i := 0) dX9_blockers_3 rfl kv_X9_230 (c_mnoPosition0 hs hr hk hm (hB.1.at (j := 0) rfl)) rfl (by decide) hB rfl rfl rfl rfl (bz_le rfl) (by decide) (by decide) (fun r g1 hQ => ?_)
  obtain ⟨rfl, h1⟩ := hQ
  have hB := hB.sp (j := 0) rfl 0 rfl h1 (bz_le rfl)
  refine g_ifN_eq (q := 9) (t := 13) dX9_blockers_6 rfl (by decide) (by omega) (fun _ => ?_) (fun c => absurd c (by omega))
  refine g_aload_n (q := 14) dX9_blockers_13 rfl rfl ?_
  refine g_iload_n (q := 15) dX9_blockers_14 rfl rfl ?_
  refine g_iload_n (q := 16) dX9_blockers_15 rfl rfl ?_
  refine gb_callV (q := 19) (j := 0) (i := 0) dX9_blockers_16 rfl kv_X9_237 (c_mblocking (I := va_up I 0 (nI 0)) (A := A) (P := P) (x := x) (tb := tb) hs hP hpx ht (hB.1.at (j := 0) rfl)) rfl (by decide) hB rfl rfl rfl rfl (bz_le rfl) (by decide) (by decide) (fun r g1 hQ => ?_)
  obtain ⟨rfl, hg⟩ := hQ
  have hg := hg.symm
  subst hg
  exact g_iret dX9_blockers_19 rfl (⟨rfl, hB⟩)
set_option maxRecDepth 20000 in
set_option maxHeartbeats 1000000 in
theorem c_mword2 {l : Launch} {E : bz_E} {L : List Nat} {g : Nat → va_E} {o : Nat} {I : Nat → Int32} {A : Nat → Nat → Int32} {v w : Int32} (hb : m_bad v 2 = true) (hH : bz_H L g o (b_Mod E o I A)) : bz_K l E mX9_word 3 [.ref o, .int v, .int w] L g (fun r g1 => r = some (.int (nI 0)) ∧ bz_B L g g1 [(o, b_Mod E o (va_up I 0 (nI 1)) A)]) := by
  refine bz_K.of (by decide) (bz_le rfl) (fun sz => ?_)
  have hB := bz_B.rf (bz_W.one hH)
  show bz_G _ _ _ _ _ _ _ _ _ _ _ _ 0 [(0, .ref o), (1, .int v), (2, .int w)] []
  refine g_aload_n (q := 1) dX9_word_0 rfl rfl ?_
  refine g_iload_n (q := 2) dX9_word_1 rfl rfl ?_
  refine gb_callV (q := 5) (j := 0) (i := 0) dX9_word_2 rfl kv_X9_227 (c_mnoSide1 hb (hB.1.at (j := 0) rfl)) rfl (by decide) hB rfl rfl rfl rfl (bz_le rfl) (by decide) (by decide) (fun r g1 hQ => ?_)
  obtain ⟨rfl, h1⟩ := hQ
  have hB := hB.sp (j := 0) rfl 0 rfl h1 (bz_le rfl)
  refine g_ifN_ne (q := 8) (t := 18) dX9_word_5 rfl (by decide) (by omega) (fun _ => ?_) (fun c => absurd c (by omega))
  refine g_iconst (q := 19) (v := (nI 0)) dX9_word_18 rfl (by decide) ?_
  refine g_goto (q := 36) dX9_word_19 (by decide) ?_
  exact g_iret dX9_word_36 rfl (⟨rfl, hB⟩)
set_option maxRecDepth 20000 in
set_option maxHeartbeats 1000000 in
theorem c_mword1 {l : Launch} {E : bz_E} {L : List Nat} {g : Nat → va_E} {o : Nat} {I : Nat → Int32} {A : Nat → Nat → Int32} {s : Nat} {v : Int32} (hs : s < 2) (hb : m_bad v 16 = true) (hH : bz_H L g o (b_Mod E o I A)) : bz_K l E mX9_word 3 [.ref o, .int (nI s), .int v] L g (fun r g1 => r = some (.int (nI 0)) ∧ bz_B L g g1 [(o, b_Mod E o (va_up I 0 (nI 1)) A)]) := by
  refine bz_K.of (by decide) (bz_le rfl) (fun sz => ?_)
  have hB := bz_B.rf (bz_W.one hH)
  show bz_G _ _ _ _ _ _ _ _ _ _ _ _ 0 [(0, .ref o), (1, .int (nI s)), (2, .int v)] []
  refine g_aload_n (q := 1) dX9_word_0 rfl rfl ?_
  refine g_iload_n (q := 2) dX9_word_1 rfl rfl ?_
  refine gb_callV (q := 5) (j := 0) (i := 0) dX9_word_2 rfl kv_X9_227 (c_mnoSide0 hs (hB.1.at (j := 0) rfl)) rfl (by decide) hB rfl rfl rfl rfl (bz_le rfl) (by decide) (by decide) (fun r g1 hQ => ?_)
  obtain ⟨rfl, h1⟩ := hQ
  have hB := hB.sp (j := 0) rfl 0 rfl h1 (bz_le rfl)
  refine g_ifN_ne (q := 8) (t := 18) dX9_word_5 rfl (by decide) (by omega) (fun c => absurd c (by omega)) (fun _ => ?_)
  refine g_aload_n (q := 9) dX9_word_8 rfl rfl ?_
  refine g_iload_n (q := 10) dX9_word_9 rfl rfl ?_
  refine g_bipush (q := 12) (v := (nI 16)) dX9_word_10 rfl (by decide) ?_
  refine gb_callV (q := 15) (j := 0) (i := 0) dX9_word_12 rfl kv_X9_220 (c_mno1 (I := va_up I 0 (nI 0)) (A := A) hb rfl (hB.1.at (j := 0) rfl)) rfl (by decide) hB rfl rfl rfl rfl (bz_le rfl) (by decide) (by decide) (fun r g1 hQ => ?_)
  obtain ⟨rfl, h1⟩ := hQ
  have hB := hB.sp (j := 0) rfl 0 rfl h1 (bz_le rfl)
  refine g_ifN_eq (q := 18) (t := 22) dX9_word_15 rfl (by decide) (by omega) (fun c => absurd c (by omega)) (fun _ => ?_)
  refine g_iconst (q := 19) (v := (nI 0)) dX9_word_18 rfl (by decide) ?_
  refine g_goto (q := 36) dX9_word_19 (by decide) ?_
  exact g_iret dX9_word_36 rfl (⟨rfl, hB⟩)
set_option maxRecDepth 20000 in
set_option maxHeartbeats 1000000 in
theorem c_mword0 {l : Launch} {E : bz_E} {L : List Nat} {g : Nat → va_E} {o : Nat} {I : Nat → Int32} {A : Nat → Nat → Int32} {s k : Nat} (hs : s < 2) (hk : k < 16) (hH : bz_H L g o (b_Mod E o I A)) : bz_K l E mX9_word 3 [.ref o, .int (nI s), .int (nI k)] L g (fun r g1 => r = some (.int (A 1 (11 + 16 * s + k))) ∧ bz_B L g g1 [(o, b_Mod E o (va_up I 0 (nI 0)) A)]) := by
  refine bz_K.of (by decide) (bz_le rfl) (fun sz => ?_)
  have hB := bz_B.rf (bz_W.one hH)
  show bz_G _ _ _ _ _ _ _ _ _ _ _ _ 0 [(0, .ref o), (1, .int (nI s)), (2, .int (nI k))] []
  refine g_aload_n (q := 1) dX9_word_0 rfl rfl ?_
  refine g_iload_n (q := 2) dX9_word_1 rfl rfl ?_
  refine gb_callV (q := 5) (j := 0) (i := 0) dX9_word_2 rfl kv_X9_227 (c_mnoSide0 hs (hB.1.at (j := 0) rfl)) rfl (by decide) hB rfl rfl rfl rfl (bz_le rfl) (by decide) (by decide) (fun r g1 hQ => ?_)
  obtain ⟨rfl, h1⟩ := hQ
  have hB := hB.sp (j := 0) rfl 0 rfl h1 (bz_le rfl)
  refine g_ifN_ne (q := 8) (t := 18) dX9_word_5 rfl (by decide) (by omega) (fun c => absurd c (by omega)) (fun _ => ?_)
  refine g_aload_n (q := 9) dX9_word_8 rfl rfl ?_
  refine g_iload_n (q := 10) dX9_word_9 rfl rfl ?_
  refine g_bipush (q := 12) (v := (nI 16)) dX9_word_10 rfl (by decide) ?_
  refine gb_callV (q := 15) (j := 0) (i := 0) dX9_word_12 rfl kv_X9_220 (c_mno0 (I := va_up I 0 (nI 0)) (A := A) hk (by decide) rfl (hB.1.at (j := 0) rfl)) rfl (by decide) hB rfl rfl rfl rfl (bz_le rfl) (by decide) (by decide) (fun r g1 hQ => ?_)
  obtain ⟨rfl, hg⟩ := hQ
  have hg := hg.symm
  subst hg
  refine g_ifN_eq (q := 18) (t := 22) dX9_word_15 rfl (by decide) (by omega) (fun _ => ?_) (fun c => absurd c (by omega))
  refine g_aload_n (q := 23) dX9_word_22 rfl rfl ?_
  refine gb_getf (q := 26) (j := 0) (i := 0) dX9_word_23 rfl fl_X9_7 hB rfl rfl rfl rfl ?_
  refine g_bipush (q := 28) (v := (nI 11)) dX9_word_26 rfl (by decide) ?_
  refine g_bipush (q := 30) (v := (nI 16)) dX9_word_28 rfl (by decide) ?_
  refine g_iload_n (q := 31) dX9_word_30 rfl rfl ?_
  refine g_imulN (q := 32) dX9_word_31 rfl ?_
  refine g_iaddN (q := 33) dX9_word_32 rfl ?_
  refine g_iload_n (q := 34) dX9_word_33 rfl rfl ?_
  refine g_iaddN (q := 35) dX9_word_34 rfl ?_
  refine gb_ialdN (q := 36) (j := 0) (i := 1) dX9_word_35 rfl hB rfl rfl rfl (by omega) (by decide) ?_
  exact g_iret dX9_word_36 rfl (⟨rfl, hB⟩)
set_option maxRecDepth 20000 in
set_option maxHeartbeats 1000000 in
theorem c_mheld2 {l : Launch} {E : bz_E} {L : List Nat} {g : Nat → va_E} {o : Nat} {I : Nat → Int32} {A : Nat → Nat → Int32} {v w : Int32} (hb : m_bad v 2 = true) (hH : bz_H L g o (b_Mod E o I A)) : bz_K l E mX9_held 3 [.ref o, .int v, .int w] L g (fun r g1 => r = some (.int (nI 0)) ∧ bz_B L g g1 [(o, b_Mod E o (va_up I 0 (nI 1)) A)]) := by
  refine bz_K.of (by decide) (bz_le rfl) (fun sz => ?_)
  have hB := bz_B.rf (bz_W.one hH)
  show bz_G _ _ _ _ _ _ _ _ _ _ _ _ 0 [(0, .ref o), (1, .int v), (2, .int w)] []
  refine g_aload_n (q := 1) dX9_held_0 rfl rfl ?_
  refine g_iload_n (q := 2) dX9_held_1 rfl rfl ?_
  refine gb_callV (q := 5) (j := 0) (i := 0) dX9_held_2 rfl kv_X9_227 (c_mnoSide1 hb (hB.1.at (j := 0) rfl)) rfl (by decide) hB rfl rfl rfl rfl (bz_le rfl) (by decide) (by decide) (fun r g1 hQ => ?_)
  obtain ⟨rfl, h1⟩ := hQ
  have hB := hB.sp (j := 0) rfl 0 rfl h1 (bz_le rfl)
  refine g_ifN_ne (q := 8) (t := 17) dX9_held_5 rfl (by decide) (by omega) (fun _ => ?_) (fun c => absurd c (by omega))
  refine g_iconst (q := 18) (v := (nI 0)) dX9_held_17 rfl (by decide) ?_
  refine g_goto (q := 27) dX9_held_18 (by decide) ?_
  exact g_iret dX9_held_27 rfl (⟨rfl, hB⟩)
set_option maxRecDepth 20000 in
set_option maxHeartbeats 1000000 in
theorem c_mheld1 {l : Launch} {E : bz_E} {L : List Nat} {g : Nat → va_E} {o : Nat} {I : Nat → Int32} {A : Nat → Nat → Int32} {s : Nat} {v : Int32} (hs : s < 2) (hb : m_bad v 4 = true) (hH : bz_H L g o (b_Mod E o I A)) : bz_K l E mX9_held 3 [.ref o, .int (nI s), .int v] L g (fun r g1 => r = some (.int (nI 0)) ∧ bz_B L g g1 [(o, b_Mod E o (va_up I 0 (nI 1)) A)]) := by
  refine bz_K.of (by decide) (bz_le rfl) (fun sz => ?_)
  have hB := bz_B.rf (bz_W.one hH)
  show bz_G _ _ _ _ _ _ _ _ _ _ _ _ 0 [(0, .ref o), (1, .int (nI s)), (2, .int v)] []
  refine g_aload_n (q := 1) dX9_held_0 rfl rfl ?_
  refine g_iload_n (q := 2) dX9_held_1 rfl rfl ?_
  refine gb_callV (q := 5) (j := 0) (i := 0) dX9_held_2 rfl kv_X9_227 (c_mnoSide0 hs (hB.1.at (j := 0) rfl)) rfl (by decide) hB rfl rfl rfl rfl (bz_le rfl) (by decide) (by decide) (fun r g1 hQ => ?_)
  obtain ⟨rfl, h1⟩ := hQ
  have hB := hB.sp (j := 0) rfl 0 rfl h1 (bz_le rfl)
  refine g_ifN_ne (q := 8) (t := 17) dX9_held_5 rfl (by decide) (by omega) (fun c => absurd c (by omega)) (fun _ => ?_)
  refine g_aload_n (q := 9) dX9_held_8 rfl rfl ?_
  refine g_iload_n (q := 10) dX9_held_9 rfl rfl ?_
  refine g_iconst (q := 11) (v := (nI 4)) dX9_held_10 rfl (by decide) ?_
  refine gb_callV (q := 14) (j := 0) (i := 0) dX9_held_11 rfl kv_X9_220 (c_mno1 (I := va_up I 0 (nI 0)) (A := A) hb rfl (hB.1.at (j := 0) rfl)) rfl (by decide) hB rfl rfl rfl rfl (bz_le rfl) (by decide) (by decide) (fun r g1 hQ => ?_)
  obtain ⟨rfl, h1⟩ := hQ
  have hB := hB.sp (j := 0) rfl 0 rfl h1 (bz_le rfl)
  refine g_ifN_eq (q := 17) (t := 21) dX9_held_14 rfl (by decide) (by omega) (fun c => absurd c (by omega)) (fun _ => ?_)
  refine g_iconst (q := 18) (v := (nI 0)) dX9_held_17 rfl (by decide) ?_
  refine g_goto (q := 27) dX9_held_18 (by decide) ?_
  exact g_iret dX9_held_27 rfl (⟨rfl, hB⟩)
set_option maxRecDepth 20000 in
set_option maxHeartbeats 1000000 in
theorem c_mheld0 {l : Launch} {E : bz_E} {L : List Nat} {g : Nat → va_E} {o : Nat} {I : Nat → Int32} {A : Nat → Nat → Int32} {s k : Nat} {P : Po} (hs : s < 2) (hk : k < 4) (hP : m_sd (A 1) s P) (hH : bz_H L g o (b_Mod E o I A)) : bz_K l E mX9_held 3 [.ref o, .int (nI s), .int (nI k)] L g (fun r g1 => r = some (.int (nI (s_cnt k P.2.1))) ∧ bz_B L g g1 [(o, b_Mod E o (va_up I 0 (nI 0)) A)]) := by
  refine bz_K.of (by decide) (bz_le rfl) (fun sz => ?_)
  have hB := bz_B.rf (bz_W.one hH)
  show bz_G _ _ _ _ _ _ _ _ _ _ _ _ 0 [(0, .ref o), (1, .int (nI s)), (2, .int (nI k))] []
  refine g_aload_n (q := 1) dX9_held_0 rfl rfl ?_
  refine g_iload_n (q := 2) dX9_held_1 rfl rfl ?_
  refine gb_callV (q := 5) (j := 0) (i := 0) dX9_held_2 rfl kv_X9_227 (c_mnoSide0 hs (hB.1.at (j := 0) rfl)) rfl (by decide) hB rfl rfl rfl rfl (bz_le rfl) (by decide) (by decide) (fun r g1 hQ => ?_)
  obtain ⟨rfl, h1⟩ := hQ
  have hB := hB.sp (j := 0) rfl 0 rfl h1 (bz_le rfl)
  refine g_ifN_ne (q := 8) (t := 17) dX9_held_5 rfl (by decide) (by omega) (fun c => absurd c (by omega)) (fun _ => ?_)
  refine g_aload_n (q := 9) dX9_held_8 rfl rfl ?_
  refine g_iload_n (q := 10) dX9_held_9 rfl rfl ?_
  refine g_iconst (q := 11) (v := (nI 4)) dX9_held_10 rfl (by decide) ?_
  refine gb_callV (q := 14) (j := 0) (i := 0) dX9_held_11 rfl kv_X9_220 (c_mno0 (I := va_up I 0 (nI 0)) (A := A) hk (by decide) rfl (hB.1.at (j := 0) rfl)) rfl (by decide) hB rfl rfl rfl rfl (bz_le rfl) (by decide) (by decide) (fun r g1 hQ => ?_)
  obtain ⟨rfl, hg⟩ := hQ
  have hg := hg.symm
  subst hg
  refine g_ifN_eq (q := 17) (t := 21) dX9_held_14 rfl (by decide) (by omega) (fun _ => ?_) (fun c => absurd c (by omega))
  refine g_aload_n (q := 22) dX9_held_21 rfl rfl ?_
  refine g_iload_n (q := 23) dX9_held_22 rfl rfl ?_
  refine g_iload_n (q := 24) dX9_held_23 rfl rfl ?_
  refine gb_callV (q := 27) (j := 0) (i := 0) dX9_held_24 rfl kv_X9_243 (c_mheldOf (I := va_up I 0 (nI 0)) (A := A) (P := P) hs hk hP (hB.1.at (j := 0) rfl)) rfl (by decide) hB rfl rfl rfl rfl (bz_le rfl) (by decide) (by decide) (fun r g1 hQ => ?_)
  obtain ⟨rfl, hg⟩ := hQ
  have hg := hg.symm
  subst hg
  exact g_iret dX9_held_27 rfl (⟨rfl, hB⟩)
