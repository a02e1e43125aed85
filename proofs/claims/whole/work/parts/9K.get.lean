/-! the class: getters -/
theorem w_bit : ∀ m, m < 16 → ∀ e, e < 4 → (if (nI m >>> (nI e &&& 31)) &&& 1 = 1 then (1 : Int32) else 0) = tB (m.testBit e) := by decide +kernel
theorem w_ps {tb : Nat → Nat} {a b : Nat} {rx : Bool} (hb : b < 4) (h : tb (4 * a + b) ≤ 1) : (s_bk tb a rx 4).testBit b = !m_ps tb a b rx := by
  rw [s_bk_bit tb a rx b hb]
  unfold m_ps
  rw [show a * 4 + b = 4 * a + b by omega]
  rcases (show tb (4 * a + b) = 0 ∨ tb (4 * a + b) = 1 by omega) with e | e <;> rw [e] <;> cases rx <;> cases (b == 0) <;> rfl
theorem w_hw : ∀ m, m < 16 → ∀ i, i < 4 → (if nI i < 0 then (0 : Int32) else if 4 ≤ nI i then 0 else if (nI m >>> (nI i &&& 31)) &&& 1 = 1 then 1 else 0) = tB (m.testBit i) := by decide +kernel
theorem w_hb {z c : Int32} (hb : m_bad z 4 = true) : (if z < 0 then (0 : Int32) else if 4 ≤ z then 0 else if (c >>> (z &&& 31)) &&& 1 = 1 then 1 else 0) = 0 := by
  by_cases h0 : z < 0
  · exact if_pos h0
  · rw [if_neg h0]
    by_cases h4 : (4 : Int32) ≤ z
    · exact if_pos h4
    · rw [m_badF (by decide) h0 (Int32.not_le.mp h4)] at hb
      cases hb

set_option maxRecDepth 20000 in
set_option maxHeartbeats 1000000 in
theorem c8_waiting1 {l : Launch} {E : bz_E} {L : List Nat} {g : Nat → va_E} {o : Nat} {v : Int32} (hl : l.stackTraces = false) (hb : m_bad v 2 = true) : bz_KX l E mX8_waiting 7 [.ref o, .int v] L g x_IOE := by
  refine bz_KX.of (by decide) (bz_le rfl) (fun sz => ?_)
  show bz_G _ _ _ _ _ _ _ _ _ _ _ _ 0 [(0, .ref o), (1, .int v)] []
  refine g_iload_n (q := 1) dX8_waiting_0 rfl rfl ?_
  exact g_callSX dX8_waiting_1 (by decide +kernel) ks_X8_116 rfl (c8_checkSide1 hl hb) (by decide) rfl (bz_le rfl)
set_option maxRecDepth 20000 in
set_option maxHeartbeats 1000000 in
theorem c8_waiting0 {l : Launch} {E : bz_E} {L : List Nat} {g : Nat → va_E} {o p q : Nat} {n er v0 v1 : Int32} {rp : PLR} {rS : SR} {σ : Si} {D : Pl} {s : Nat} (hs : s < 2) (hr : s_srep rS σ) (hD : d_rep rp D) (hW : bz_W L g [(o, w_obj o p q n er v0 v1), (p, b_PL E p rp), (o + 27, b_Sit E (o + 27) rS)]) : bz_K l E mX8_waiting 1 [.ref o, .int (nI s)] L g (fun r g1 => r = some (.int (nI (s_sd s σ).1.length)) ∧ g1 = g) := by
  refine bz_K.of (by decide) (bz_le rfl) (fun sz => ?_)
  have hB := bz_B.rf hW
  show bz_G _ _ _ _ _ _ _ _ _ _ _ _ 0 [(0, .ref o), (1, .int (nI s))] []
  rcases (show s = 0 ∨ s = 1 by omega) with rfl | rfl
  · refine g_iload_n (q := 1) dX8_waiting_0 rfl rfl ?_
    refine g_callS (q := 4) dX8_waiting_1 rfl ks_X8_116 rfl (c8_checkSide0 hs) (by decide) rfl (bz_le rfl) (by decide) (by decide) (fun r g1 hQ => ?_)
    obtain ⟨rfl, hg⟩ := hQ
    have hg := hg.symm
    subst hg
    refine g_aload_n (q := 5) dX8_waiting_4 rfl rfl ?_
    refine gb_getf (q := 8) (j := 0) (i := 0) dX8_waiting_5 rfl fl_X8_33 hB rfl rfl rfl rfl ?_
    refine g_iload_n (q := 9) dX8_waiting_8 rfl rfl ?_
    refine gb_callV (q := 12) (j := 2) (i := 0) dX8_waiting_9 rfl kv_X8_119 (c_portOf0 (hB.1.at (j := 2) rfl)) rfl (by decide) hB rfl rfl rfl rfl (bz_le rfl) (by decide) (by decide) (fun r g1 hQ => ?_)
    obtain ⟨rfl, hg⟩ := hQ
    have hg := hg.symm
    subst hg
    refine gb_getf (q := 15) (j := 2) (i := 1) dX8_waiting_12 rfl fl_X8_123 hB rfl rfl rfl rfl ?_
    refine gb_getf (q := 18) (j := 2) (i := 2) dX8_waiting_15 rfl fl_X8_129 hB rfl rfl rfl rfl ?_
    refine g_eqi (v := nI (σ.2.1.1.length)) (hr.2.1.2.1) ?_
    exact g_iret dX8_waiting_18 rfl (⟨rfl, rfl⟩)
  · refine g_iload_n (q := 1) dX8_waiting_0 rfl rfl ?_
    refine g_callS (q := 4) dX8_waiting_1 rfl ks_X8_116 rfl (c8_checkSide0 hs) (by decide) rfl (bz_le rfl) (by decide) (by decide) (fun r g1 hQ => ?_)
    obtain ⟨rfl, hg⟩ := hQ
    have hg := hg.symm
    subst hg
    refine g_aload_n (q := 5) dX8_waiting_4 rfl rfl ?_
    refine gb_getf (q := 8) (j := 0) (i := 0) dX8_waiting_5 rfl fl_X8_33 hB rfl rfl rfl rfl ?_
    refine g_iload_n (q := 9) dX8_waiting_8 rfl rfl ?_
    refine gb_callV (q := 12) (j := 2) (i := 0) dX8_waiting_9 rfl kv_X8_119 (c_portOf1 (hB.1.at (j := 2) rfl)) rfl (by decide) hB rfl rfl rfl rfl (bz_le rfl) (by decide) (by decide) (fun r g1 hQ => ?_)
    obtain ⟨rfl, hg⟩ := hQ
    have hg := hg.symm
    subst hg
    refine gb_getf (q := 15) (j := 2) (i := 14) dX8_waiting_12 rfl fl_X8_123 hB rfl rfl rfl rfl ?_
    refine gb_getf (q := 18) (j := 2) (i := 15) dX8_waiting_15 rfl fl_X8_129 hB rfl rfl rfl rfl ?_
    refine g_eqi (v := nI (σ.2.2.1.length)) (hr.2.2.2.1) ?_
    exact g_iret dX8_waiting_18 rfl (⟨rfl, rfl⟩)
set_option maxRecDepth 20000 in
set_option maxHeartbeats 1000000 in
theorem c8_forwarded1 {l : Launch} {E : bz_E} {L : List Nat} {g : Nat → va_E} {o : Nat} {v : Int32} (hl : l.stackTraces = false) (hb : m_bad v 2 = true) : bz_KX l E mX8_forwarded 7 [.ref o, .int v] L g x_IOE := by
  refine bz_KX.of (by decide) (bz_le rfl) (fun sz => ?_)
  show bz_G _ _ _ _ _ _ _ _ _ _ _ _ 0 [(0, .ref o), (1, .int v)] []
  refine g_iload_n (q := 1) dX8_forwarded_0 rfl rfl ?_
  exact g_callSX dX8_forwarded_1 (by decide +kernel) ks_X8_116 rfl (c8_checkSide1 hl hb) (by decide) rfl (bz_le rfl)
set_option maxRecDepth 20000 in
set_option maxHeartbeats 1000000 in
theorem c8_forwarded0 {l : Launch} {E : bz_E} {L : List Nat} {g : Nat → va_E} {o p q : Nat} {n er v0 v1 : Int32} {rp : PLR} {rS : SR} {σ : Si} {D : Pl} {s : Nat} (hs : s < 2) (hr : s_srep rS σ) (hD : d_rep rp D) (hW : bz_W L g [(o, w_obj o p q n er v0 v1), (p, b_PL E p rp), (o + 27, b_Sit E (o + 27) rS)]) : bz_K l E mX8_forwarded 1 [.ref o, .int (nI s)] L g (fun r g1 => r = some (.int (nI (s_sd s σ).2.2.2.2.1)) ∧ g1 = g) := by
  refine bz_K.of (by decide) (bz_le rfl) (fun sz => ?_)
  have hB := bz_B.rf hW
  show bz_G _ _ _ _ _ _ _ _ _ _ _ _ 0 [(0, .ref o), (1, .int (nI s))] []
  rcases (show s = 0 ∨ s = 1 by omega) with rfl | rfl
  · refine g_iload_n (q := 1) dX8_forwarded_0 rfl rfl ?_
    refine g_callS (q := 4) dX8_forwarded_1 rfl ks_X8_116 rfl (c8_checkSide0 hs) (by decide) rfl (bz_le rfl) (by decide) (by decide) (fun r g1 hQ => ?_)
    obtain ⟨rfl, hg⟩ := hQ
    have hg := hg.symm
    subst hg
    refine g_aload_n (q := 5) dX8_forwarded_4 rfl rfl ?_
    refine gb_getf (q := 8) (j := 0) (i := 0) dX8_forwarded_5 rfl fl_X8_33 hB rfl rfl rfl rfl ?_
    refine g_iload_n (q := 9) dX8_forwarded_8 rfl rfl ?_
    refine gb_callV (q := 12) (j := 2) (i := 0) dX8_forwarded_9 rfl kv_X8_119 (c_portOf0 (hB.1.at (j := 2) rfl)) rfl (by decide) hB rfl rfl rfl rfl (bz_le rfl) (by decide) (by decide) (fun r g1 hQ => ?_)
    obtain ⟨rfl, hg⟩ := hQ
    have hg := hg.symm
    subst hg
    refine gb_getf (q := 15) (j := 2) (i := 1) dX8_forwarded_12 rfl fl_X8_190 hB rfl rfl rfl rfl ?_
    refine g_eqi (v := nI (σ.2.1.2.2.2.2.1)) (hr.2.1.2.2.2.2.2.2.2.2.1) ?_
    exact g_iret dX8_forwarded_15 rfl (⟨rfl, rfl⟩)
  · refine g_iload_n (q := 1) dX8_forwarded_0 rfl rfl ?_
    refine g_callS (q := 4) dX8_forwarded_1 rfl ks_X8_116 rfl (c8_checkSide0 hs) (by decide) rfl (bz_le rfl) (by decide) (by decide) (fun r g1 hQ => ?_)
    obtain ⟨rfl, hg⟩ := hQ
    have hg := hg.symm
    subst hg
    refine g_aload_n (q := 5) dX8_forwarded_4 rfl rfl ?_
    refine gb_getf (q := 8) (j := 0) (i := 0) dX8_forwarded_5 rfl fl_X8_33 hB rfl rfl rfl rfl ?_
    refine g_iload_n (q := 9) dX8_forwarded_8 rfl rfl ?_
    refine gb_callV (q := 12) (j := 2) (i := 0) dX8_forwarded_9 rfl kv_X8_119 (c_portOf1 (hB.1.at (j := 2) rfl)) rfl (by decide) hB rfl rfl rfl rfl (bz_le rfl) (by decide) (by decide) (fun r g1 hQ => ?_)
    obtain ⟨rfl, hg⟩ := hQ
    have hg := hg.symm
    subst hg
    refine gb_getf (q := 15) (j := 2) (i := 14) dX8_forwarded_12 rfl fl_X8_190 hB rfl rfl rfl rfl ?_
    refine g_eqi (v := nI (σ.2.2.2.2.2.2.1)) (hr.2.2.2.2.2.2.2.2.2.2.1) ?_
    exact g_iret dX8_forwarded_15 rfl (⟨rfl, rfl⟩)
set_option maxRecDepth 20000 in
set_option maxHeartbeats 1000000 in
theorem c8_passings1 {l : Launch} {E : bz_E} {L : List Nat} {g : Nat → va_E} {o : Nat} {v : Int32} (hl : l.stackTraces = false) (hb : m_bad v 2 = true) : bz_KX l E mX8_passings 7 [.ref o, .int v] L g x_IOE := by
  refine bz_KX.of (by decide) (bz_le rfl) (fun sz => ?_)
  show bz_G _ _ _ _ _ _ _ _ _ _ _ _ 0 [(0, .ref o), (1, .int v)] []
  refine g_iload_n (q := 1) dX8_passings_0 rfl rfl ?_
  exact g_callSX dX8_passings_1 (by decide +kernel) ks_X8_116 rfl (c8_checkSide1 hl hb) (by decide) rfl (bz_le rfl)
set_option maxRecDepth 20000 in
set_option maxHeartbeats 1000000 in
theorem c8_passings0 {l : Launch} {E : bz_E} {L : List Nat} {g : Nat → va_E} {o p q : Nat} {n er v0 v1 : Int32} {rp : PLR} {rS : SR} {σ : Si} {D : Pl} {s : Nat} (hs : s < 2) (hr : s_srep rS σ) (hD : d_rep rp D) (hW : bz_W L g [(o, w_obj o p q n er v0 v1), (p, b_PL E p rp), (o + 27, b_Sit E (o + 27) rS)]) : bz_K l E mX8_passings 1 [.ref o, .int (nI s)] L g (fun r g1 => r = some (.int (nI (s_sd s σ).2.2.2.2.2.1)) ∧ g1 = g) := by
  refine bz_K.of (by decide) (bz_le rfl) (fun sz => ?_)
  have hB := bz_B.rf hW
  show bz_G _ _ _ _ _ _ _ _ _ _ _ _ 0 [(0, .ref o), (1, .int (nI s))] []
  rcases (show s = 0 ∨ s = 1 by omega) with rfl | rfl
  · refine g_iload_n (q := 1) dX8_passings_0 rfl rfl ?_
    refine g_callS (q := 4) dX8_passings_1 rfl ks_X8_116 rfl (c8_checkSide0 hs) (by decide) rfl (bz_le rfl) (by decide) (by decide) (fun r g1 hQ => ?_)
    obtain ⟨rfl, hg⟩ := hQ
    have hg := hg.symm
    subst hg
    refine g_aload_n (q := 5) dX8_passings_4 rfl rfl ?_
    refine gb_getf (q := 8) (j := 0) (i := 0) dX8_passings_5 rfl fl_X8_33 hB rfl rfl rfl rfl ?_
    refine g_iload_n (q := 9) dX8_passings_8 rfl rfl ?_
    refine gb_callV (q := 12) (j := 2) (i := 0) dX8_passings_9 rfl kv_X8_119 (c_portOf0 (hB.1.at (j := 2) rfl)) rfl (by decide) hB rfl rfl rfl rfl (bz_le rfl) (by decide) (by decide) (fun r g1 hQ => ?_)
    obtain ⟨rfl, hg⟩ := hQ
    have hg := hg.symm
    subst hg
    refine gb_getf (q := 15) (j := 2) (i := 1) dX8_passings_12 rfl fl_X8_193 hB rfl rfl rfl rfl ?_
    refine g_eqi (v := nI (σ.2.1.2.2.2.2.2.1)) (hr.2.1.2.2.2.2.2.2.2.2.2.1) ?_
    exact g_iret dX8_passings_15 rfl (⟨rfl, rfl⟩)
  · refine g_iload_n (q := 1) dX8_passings_0 rfl rfl ?_
    refine g_callS (q := 4) dX8_passings_1 rfl ks_X8_116 rfl (c8_checkSide0 hs) (by decide) rfl (bz_le rfl) (by decide) (by decide) (fun r g1 hQ => ?_)
    obtain ⟨rfl, hg⟩ := hQ
    have hg := hg.symm
    subst hg
    refine g_aload_n (q := 5) dX8_passings_4 rfl rfl ?_
    refine gb_getf (q := 8) (j := 0) (i := 0) dX8_passings_5 rfl fl_X8_33 hB rfl rfl rfl rfl ?_
    refine g_iload_n (q := 9) dX8_passings_8 rfl rfl ?_
    refine gb_callV (q := 12) (j := 2) (i := 0) dX8_passings_9 rfl kv_X8_119 (c_portOf1 (hB.1.at (j := 2) rfl)) rfl (by decide) hB rfl rfl rfl rfl (bz_le rfl) (by decide) (by decide) (fun r g1 hQ => ?_)
    obtain ⟨rfl, hg⟩ := hQ
    have hg := hg.symm
    subst hg
    refine gb_getf (q := 15) (j := 2) (i := 14) dX8_passings_12 rfl fl_X8_193 hB rfl rfl rfl rfl ?_
    refine g_eqi (v := nI (σ.2.2.2.2.2.2.2.1)) (hr.2.2.2.2.2.2.2.2.2.2.2.1) ?_
    exact g_iret dX8_passings_15 rfl (⟨rfl, rfl⟩)
set_option maxRecDepth 20000 in
set_option maxHeartbeats 1000000 in
theorem c8_tick {l : Launch} {E : bz_E} {L : List Nat} {g : Nat → va_E} {o p q : Nat} {n er v0 v1 : Int32} {rp : PLR} {rS : SR} {σ : Si} {D : Pl} (hr : s_srep rS σ) (hD : d_rep rp D) (hW : bz_W L g [(o, w_obj o p q n er v0 v1), (p, b_PL E p rp), (o + 27, b_Sit E (o + 27) rS)]) : bz_K l E mX8_tick 0 [.ref o] L g (fun r g1 => r = some (.int (nI σ.1)) ∧ g1 = g) := by
  refine bz_K.of (by decide) (bz_le rfl) (fun sz => ?_)
  have hB := bz_B.rf hW
  show bz_G _ _ _ _ _ _ _ _ _ _ _ _ 0 [(0, .ref o)] []
  refine g_aload_n (q := 1) dX8_tick_0 rfl rfl ?_
  refine gb_getf (q := 4) (j := 0) (i := 0) dX8_tick_1 rfl fl_X8_33 hB rfl rfl rfl rfl ?_
  refine gb_getf (q := 7) (j := 2) (i := 0) dX8_tick_4 rfl fl_X8_98 hB rfl rfl rfl rfl ?_
  refine g_eqi (v := nI (σ.1)) (hr.1) ?_
  exact g_iret dX8_tick_7 rfl (⟨rfl, rfl⟩)
set_option maxRecDepth 20000 in
set_option maxHeartbeats 1000000 in
theorem c8_errorPosition {l : Launch} {E : bz_E} {L : List Nat} {g : Nat → va_E} {o p q : Nat} {n er v0 v1 : Int32} {rp : PLR} {rS : SR} {σ : Si} {D : Pl} (hr : s_srep rS σ) (hD : d_rep rp D) (hW : bz_W L g [(o, w_obj o p q n er v0 v1), (p, b_PL E p rp), (o + 27, b_Sit E (o + 27) rS)]) : bz_K l E mX8_errorPosition 0 [.ref o] L g (fun r g1 => r = some (.int (er)) ∧ g1 = g) := by
  refine bz_K.of (by decide) (bz_le rfl) (fun sz => ?_)
  have hB := bz_B.rf hW
  show bz_G _ _ _ _ _ _ _ _ _ _ _ _ 0 [(0, .ref o)] []
  refine g_aload_n (q := 1) dX8_errorPosition_0 rfl rfl ?_
  refine gb_getf (q := 4) (j := 0) (i := 0) dX8_errorPosition_1 rfl fl_X8_53 hB rfl rfl rfl rfl ?_
  exact g_iret dX8_errorPosition_4 rfl (⟨rfl, rfl⟩)
set_option maxRecDepth 20000 in
set_option maxHeartbeats 1000000 in
theorem c8_next1 {l : Launch} {E : bz_E} {L : List Nat} {g : Nat → va_E} {o : Nat} {v : Int32} (hl : l.stackTraces = false) (hb : m_bad v 2 = true) : bz_KX l E mX8_next 7 [.ref o, .int v] L g x_IOE := by
  refine bz_KX.of (by decide) (bz_le rfl) (fun sz => ?_)
  show bz_G _ _ _ _ _ _ _ _ _ _ _ _ 0 [(0, .ref o), (1, .int v)] []
  refine g_iload_n (q := 1) dX8_next_0 rfl rfl ?_
  exact g_callSX dX8_next_1 (by decide +kernel) ks_X8_116 rfl (c8_checkSide1 hl hb) (by decide) rfl (bz_le rfl)
theorem w_W21 {L : List Nat} {g : Nat → va_E} {b0 b1 b2 : Nat × List va_E} (h : bz_W L g [b0, b1, b2]) : bz_W L g [b2, b1] := by
  have h1 := (List.pairwise_cons.mp h.2).2
  have h2 := (List.pairwise_cons.mp h1).1 b2 List.mem_cons_self
  refine ⟨fun b hb => h.1 b ?_, List.pairwise_cons.mpr ⟨fun b hb => ?_, List.pairwise_singleton _ _⟩⟩
  · rcases List.mem_cons.mp hb with rfl | hb
    · exact List.mem_cons_of_mem _ (List.mem_cons_of_mem _ List.mem_cons_self)
    · rw [List.mem_singleton.mp hb]; exact List.mem_cons_of_mem _ List.mem_cons_self
  · rw [List.mem_singleton.mp hb]; exact h2.symm
def w_cr (s : Nat) (D : Pl) : Nat → Nat := fun k => D.2.1 ((if s = 0 then 4 else 0) + k)
set_option maxRecDepth 20000 in
set_option maxHeartbeats 1000000 in
theorem c8_next0 {l : Launch} {E : bz_E} {L : List Nat} {g : Nat → va_E} {o p q : Nat} {n er v0 v1 : Int32} {rp : PLR} {rS : SR} {σ : Si} {D : Pl} {s : Nat} (hs : s < 2) (hd : d_ok D) (hr : s_srep rS σ) (hD : d_rep rp D) (hW : bz_W L g [(o, w_obj o p q n er v0 v1), (p, b_PL E p rp), (o + 27, b_Sit E (o + 27) rS)]) : bz_K l E mX8_next 3 [.ref o, .int (nI s)] L g (fun r g1 => r = some (.int (match (s_next D.2.2.1 (w_cr s D) (s_sd (1 - s) σ).2.1 [] (s_sd s σ).1) with | some i => nI i | none => -1)) ∧ g1 = g) := by
  refine bz_K.of (by decide) (bz_le rfl) (fun sz => ?_)
  have hB := bz_B.rf hW
  show bz_G _ _ _ _ _ _ _ _ _ _ _ _ 0 [(0, .ref o), (1, .int (nI s))] []
  rcases (show s = 0 ∨ s = 1 by omega) with rfl | rfl
  · refine g_iload_n (q := 1) dX8_next_0 rfl rfl ?_
    refine g_callS (q := 4) dX8_next_1 rfl ks_X8_116 rfl (c8_checkSide0 hs) (by decide) rfl (bz_le rfl) (by decide) (by decide) (fun r g1 hQ => ?_)
    obtain ⟨rfl, hg⟩ := hQ
    have hg := hg.symm
    subst hg
    refine g_aload_n (q := 5) dX8_next_4 rfl rfl ?_
    refine gb_getf (q := 8) (j := 0) (i := 0) dX8_next_5 rfl fl_X8_33 hB rfl rfl rfl rfl ?_
    refine g_aload_n (q := 9) dX8_next_8 rfl rfl ?_
    refine gb_getf (q := 12) (j := 0) (i := 0) dX8_next_9 rfl fl_X8_23 hB rfl rfl rfl rfl ?_
    refine g_iload_n (q := 13) dX8_next_12 rfl rfl ?_
    refine gb_callV (q := 16) (j := 2) (i := 0) dX8_next_13 rfl kv_X8_145 (c_firstReady0 (r0 := rS) (σ := σ) (pl := D) hr.2.1 hr.2.2 (hD.lpl hd) (w_W21 hB.1)) rfl (by decide) hB rfl rfl rfl rfl (bz_le rfl) (by decide) (by decide) (fun r g1 hQ => ?_)
    obtain ⟨rfl, hg⟩ := hQ
    have hg := hg.symm
    subst hg
    exact g_iret dX8_next_16 rfl (⟨rfl, rfl⟩)
  · refine g_iload_n (q := 1) dX8_next_0 rfl rfl ?_
    refine g_callS (q := 4) dX8_next_1 rfl ks_X8_116 rfl (c8_checkSide0 hs) (by decide) rfl (bz_le rfl) (by decide) (by decide) (fun r g1 hQ => ?_)
    obtain ⟨rfl, hg⟩ := hQ
    have hg := hg.symm
    subst hg
    refine g_aload_n (q := 5) dX8_next_4 rfl rfl ?_
    refine gb_getf (q := 8) (j := 0) (i := 0) dX8_next_5 rfl fl_X8_33 hB rfl rfl rfl rfl ?_
    refine g_aload_n (q := 9) dX8_next_8 rfl rfl ?_
    refine gb_getf (q := 12) (j := 0) (i := 0) dX8_next_9 rfl fl_X8_23 hB rfl rfl rfl rfl ?_
    refine g_iload_n (q := 13) dX8_next_12 rfl rfl ?_
    refine gb_callV (q := 16) (j := 2) (i := 0) dX8_next_13 rfl kv_X8_145 (c_firstReady1 (r0 := rS) (σ := σ) (pl := D) hr.2.1 hr.2.2 (hD.lpl hd) (w_W21 hB.1)) rfl (by decide) hB rfl rfl rfl rfl (bz_le rfl) (by decide) (by decide) (fun r g1 hQ => ?_)
    obtain ⟨rfl, hg⟩ := hQ
    have hg := hg.symm
    subst hg
    exact g_iret dX8_next_16 rfl (⟨rfl, rfl⟩)
set_option maxRecDepth 20000 in
set_option maxHeartbeats 1000000 in
theorem c8_kindAt2 {l : Launch} {E : bz_E} {L : List Nat} {g : Nat → va_E} {o p q : Nat} {n er v0 v1 : Int32} {rp : PLR} {rS : SR} {σ : Si} {D : Pl} {v w : Int32} (hl : l.stackTraces = false) (hb : m_bad v 2 = true) (hr : s_srep rS σ) (hD : d_rep rp D) (hW : bz_W L g [(o, w_obj o p q n er v0 v1), (p, b_PL E p rp), (o + 27, b_Sit E (o + 27) rS)]) : bz_KX l E mX8_kindAt 8 [.ref o, .int v, .int w] L g x_IOE := by
  refine bz_KX.of (by decide) (bz_le rfl) (fun sz => ?_)
  show bz_G _ _ _ _ _ _ _ _ _ _ _ _ 0 [(0, .ref o), (1, .int v), (2, .int w)] []
  refine g_aload_n (q := 1) dX8_kindAt_0 rfl rfl ?_
  refine g_iload_n (q := 2) dX8_kindAt_1 rfl rfl ?_
  refine g_iload_n (q := 3) dX8_kindAt_2 rfl rfl ?_
  exact g_callVX dX8_kindAt_3 (by decide +kernel) kv_X8_134 (c8_pos2 hl hb) rfl (by decide) (hW.at (j := 0) rfl 0 _ rfl).1 (hW.at (j := 0) rfl 0 _ rfl).2 rfl (bz_le rfl)
set_option maxRecDepth 20000 in
set_option maxHeartbeats 1000000 in
theorem c8_kindAt1 {l : Launch} {E : bz_E} {L : List Nat} {g : Nat → va_E} {o p q : Nat} {n er v0 v1 : Int32} {rp : PLR} {rS : SR} {σ : Si} {D : Pl} {s : Nat} {w : Int32} (hl : l.stackTraces = false) (hs : s < 2) (hb : m_bad w (s_sd s σ).1.length = true) (hr : s_srep rS σ) (hD : d_rep rp D) (hW : bz_W L g [(o, w_obj o p q n er v0 v1), (p, b_PL E p rp), (o + 27, b_Sit E (o + 27) rS)]) : bz_KX l E mX8_kindAt 8 [.ref o, .int (nI s), .int w] L g x_IOE := by
  refine bz_KX.of (by decide) (bz_le rfl) (fun sz => ?_)
  show bz_G _ _ _ _ _ _ _ _ _ _ _ _ 0 [(0, .ref o), (1, .int (nI s)), (2, .int w)] []
  refine g_aload_n (q := 1) dX8_kindAt_0 rfl rfl ?_
  refine g_iload_n (q := 2) dX8_kindAt_1 rfl rfl ?_
  refine g_iload_n (q := 3) dX8_kindAt_2 rfl rfl ?_
  exact g_callVX dX8_kindAt_3 (by decide +kernel) kv_X8_134 (c8_pos1 hl hs hb hr hD hW) rfl (by decide) (hW.at (j := 0) rfl 0 _ rfl).1 (hW.at (j := 0) rfl 0 _ rfl).2 rfl (bz_le rfl)
set_option maxRecDepth 20000 in
set_option maxHeartbeats 1000000 in
theorem c8_kindAt0 {l : Launch} {E : bz_E} {L : List Nat} {g : Nat → va_E} {o p q : Nat} {n er v0 v1 : Int32} {rp : PLR} {rS : SR} {σ : Si} {D : Pl} {s k : Nat} {x : Tx} (hs : s < 2) (hx : (s_sd s σ).1[k]? = some x) (hr : s_srep rS σ) (hD : d_rep rp D) (hW : bz_W L g [(o, w_obj o p q n er v0 v1), (p, b_PL E p rp), (o + 27, b_Sit E (o + 27) rS)]) : bz_K l E mX8_kindAt 2 [.ref o, .int (nI s), .int (nI k)] L g (fun r g1 => r = some (.int (nI (tK x))) ∧ g1 = g) := by
  refine bz_K.of (by decide) (bz_le rfl) (fun sz => ?_)
  have hB := bz_B.rf hW
  show bz_G _ _ _ _ _ _ _ _ _ _ _ _ 0 [(0, .ref o), (1, .int (nI s)), (2, .int (nI k))] []
  rcases (show s = 0 ∨ s = 1 by omega) with rfl | rfl
  · refine g_aload_n (q := 1) dX8_kindAt_0 rfl rfl ?_
    refine g_iload_n (q := 2) dX8_kindAt_1 rfl rfl ?_
    refine g_iload_n (q := 3) dX8_kindAt_2 rfl rfl ?_
    refine gb_callV (q := 6) (j := 0) (i := 0) dX8_kindAt_3 rfl kv_X8_134 (c8_pos0 hs ((List.getElem?_eq_some_iff.mp hx).1) hr hD hB.1) rfl (by decide) hB rfl rfl rfl rfl (bz_le rfl) (by decide) (by decide) (fun r g1 hQ => ?_)
    obtain ⟨rfl, hg⟩ := hQ
    have hg := hg.symm
    subst hg
    refine g_aload_n (q := 7) dX8_kindAt_6 rfl rfl ?_
    refine gb_getf (q := 10) (j := 0) (i := 0) dX8_kindAt_7 rfl fl_X8_33 hB rfl rfl rfl rfl ?_
    refine g_iload_n (q := 11) dX8_kindAt_10 rfl rfl ?_
    refine gb_callV (q := 14) (j := 2) (i := 0) dX8_kindAt_11 rfl kv_X8_119 (c_portOf0 (hB.1.at (j := 2) rfl)) rfl (by decide) hB rfl rfl rfl rfl (bz_le rfl) (by decide) (by decide) (fun r g1 hQ => ?_)
    obtain ⟨rfl, hg⟩ := hQ
    have hg := hg.symm
    subst hg
    refine gb_getf (q := 17) (j := 2) (i := 1) dX8_kindAt_14 rfl fl_X8_123 hB rfl rfl rfl rfl ?_
    refine g_iload_n (q := 18) dX8_kindAt_17 rfl rfl ?_
    refine g_iconst (q := 19) (v := (nI 0)) dX8_kindAt_18 rfl (by decide) ?_
    refine gb_callV (q := 22) (j := 2) (i := 2) dX8_kindAt_19 rfl kv_X8_138 (c_get (p := k) (x := 0) (by have h1 := hr.2.1.2.2.1.len; have h2 : k < σ.2.1.1.length := (List.getElem?_eq_some_iff.mp hx).1; omega) ((hB.1.at (j := 2) rfl).sub 2 rfl)) rfl (by decide) hB rfl rfl rfl rfl (bz_le rfl) (by decide) (by decide) (fun r g1 hQ => ?_)
    obtain ⟨rfl, hg⟩ := hQ
    have hg := hg.symm
    subst hg
    refine g_eqi (v := nI (tK x)) ((hr.2.1.1.1 k x hx).1) ?_
    exact g_iret dX8_kindAt_22 rfl (⟨rfl, rfl⟩)
  · refine g_aload_n (q := 1) dX8_kindAt_0 rfl rfl ?_
    refine g_iload_n (q := 2) dX8_kindAt_1 rfl rfl ?_
    refine g_iload_n (q := 3) dX8_kindAt_2 rfl rfl ?_
    refine gb_callV (q := 6) (j := 0) (i := 0) dX8_kindAt_3 rfl kv_X8_134 (c8_pos0 hs ((List.getElem?_eq_some_iff.mp hx).1) hr hD hB.1) rfl (by decide) hB rfl rfl rfl rfl (bz_le rfl) (by decide) (by decide) (fun r g1 hQ => ?_)
    obtain ⟨rfl, hg⟩ := hQ
    have hg := hg.symm
    subst hg
    refine g_aload_n (q := 7) dX8_kindAt_6 rfl rfl ?_
    refine gb_getf (q := 10) (j := 0) (i := 0) dX8_kindAt_7 rfl fl_X8_33 hB rfl rfl rfl rfl ?_
    refine g_iload_n (q := 11) dX8_kindAt_10 rfl rfl ?_
    refine gb_callV (q := 14) (j := 2) (i := 0) dX8_kindAt_11 rfl kv_X8_119 (c_portOf1 (hB.1.at (j := 2) rfl)) rfl (by decide) hB rfl rfl rfl rfl (bz_le rfl) (by decide) (by decide) (fun r g1 hQ => ?_)
    obtain ⟨rfl, hg⟩ := hQ
    have hg := hg.symm
    subst hg
    refine gb_getf (q := 17) (j := 2) (i := 14) dX8_kindAt_14 rfl fl_X8_123 hB rfl rfl rfl rfl ?_
    refine g_iload_n (q := 18) dX8_kindAt_17 rfl rfl ?_
    refine g_iconst (q := 19) (v := (nI 0)) dX8_kindAt_18 rfl (by decide) ?_
    refine gb_callV (q := 22) (j := 2) (i := 15) dX8_kindAt_19 rfl kv_X8_138 (c_get (p := k) (x := 0) (by have h1 := hr.2.2.2.2.1.len; have h2 : k < σ.2.2.1.length := (List.getElem?_eq_some_iff.mp hx).1; omega) ((hB.1.at (j := 2) rfl).sub 15 rfl)) rfl (by decide) hB rfl rfl rfl rfl (bz_le rfl) (by decide) (by decide) (fun r g1 hQ => ?_)
    obtain ⟨rfl, hg⟩ := hQ
    have hg := hg.symm
    subst hg
    refine g_eqi (v := nI (tK x)) ((hr.2.2.1.1 k x hx).1) ?_
    exact g_iret dX8_kindAt_22 rfl (⟨rfl, rfl⟩)
set_option maxRecDepth 20000 in
set_option maxHeartbeats 1000000 in
theorem c8_tagAt2 {l : Launch} {E : bz_E} {L : List Nat} {g : Nat → va_E} {o p q : Nat} {n er v0 v1 : Int32} {rp : PLR} {rS : SR} {σ : Si} {D : Pl} {v w : Int32} (hl : l.stackTraces = false) (hb : m_bad v 2 = true) (hr : s_srep rS σ) (hD : d_rep rp D) (hW : bz_W L g [(o, w_obj o p q n er v0 v1), (p, b_PL E p rp), (o + 27, b_Sit E (o + 27) rS)]) : bz_KX l E mX8_tagAt 8 [.ref o, .int v, .int w] L g x_IOE := by
  refine bz_KX.of (by decide) (bz_le rfl) (fun sz => ?_)
  show bz_G _ _ _ _ _ _ _ _ _ _ _ _ 0 [(0, .ref o), (1, .int v), (2, .int w)] []
  refine g_aload_n (q := 1) dX8_tagAt_0 rfl rfl ?_
  refine g_iload_n (q := 2) dX8_tagAt_1 rfl rfl ?_
  refine g_iload_n (q := 3) dX8_tagAt_2 rfl rfl ?_
  exact g_callVX dX8_tagAt_3 (by decide +kernel) kv_X8_134 (c8_pos2 hl hb) rfl (by decide) (hW.at (j := 0) rfl 0 _ rfl).1 (hW.at (j := 0) rfl 0 _ rfl).2 rfl (bz_le rfl)
set_option maxRecDepth 20000 in
set_option maxHeartbeats 1000000 in
theorem c8_tagAt1 {l : Launch} {E : bz_E} {L : List Nat} {g : Nat → va_E} {o p q : Nat} {n er v0 v1 : Int32} {rp : PLR} {rS : SR} {σ : Si} {D : Pl} {s : Nat} {w : Int32} (hl : l.stackTraces = false) (hs : s < 2) (hb : m_bad w (s_sd s σ).1.length = true) (hr : s_srep rS σ) (hD : d_rep rp D) (hW : bz_W L g [(o, w_obj o p q n er v0 v1), (p, b_PL E p rp), (o + 27, b_Sit E (o + 27) rS)]) : bz_KX l E mX8_tagAt 8 [.ref o, .int (nI s), .int w] L g x_IOE := by
  refine bz_KX.of (by decide) (bz_le rfl) (fun sz => ?_)
  show bz_G _ _ _ _ _ _ _ _ _ _ _ _ 0 [(0, .ref o), (1, .int (nI s)), (2, .int w)] []
  refine g_aload_n (q := 1) dX8_tagAt_0 rfl rfl ?_
  refine g_iload_n (q := 2) dX8_tagAt_1 rfl rfl ?_
  refine g_iload_n (q := 3) dX8_tagAt_2 rfl rfl ?_
  exact g_callVX dX8_tagAt_3 (by decide +kernel) kv_X8_134 (c8_pos1 hl hs hb hr hD hW) rfl (by decide) (hW.at (j := 0) rfl 0 _ rfl).1 (hW.at (j := 0) rfl 0 _ rfl).2 rfl (bz_le rfl)
set_option maxRecDepth 20000 in
set_option maxHeartbeats 1000000 in
theorem c8_tagAt0 {l : Launch} {E : bz_E} {L : List Nat} {g : Nat → va_E} {o p q : Nat} {n er v0 v1 : Int32} {rp : PLR} {rS : SR} {σ : Si} {D : Pl} {s k : Nat} {x : Tx} (hs : s < 2) (hx : (s_sd s σ).1[k]? = some x) (hr : s_srep rS σ) (hD : d_rep rp D) (hW : bz_W L g [(o, w_obj o p q n er v0 v1), (p, b_PL E p rp), (o + 27, b_Sit E (o + 27) rS)]) : bz_K l E mX8_tagAt 2 [.ref o, .int (nI s), .int (nI k)] L g (fun r g1 => r = some (.int (tI x)) ∧ g1 = g) := by
  refine bz_K.of (by decide) (bz_le rfl) (fun sz => ?_)
  have hB := bz_B.rf hW
  show bz_G _ _ _ _ _ _ _ _ _ _ _ _ 0 [(0, .ref o), (1, .int (nI s)), (2, .int (nI k))] []
  rcases (show s = 0 ∨ s = 1 by omega) with rfl | rfl
  · refine g_aload_n (q := 1) dX8_tagAt_0 rfl rfl ?_
    refine g_iload_n (q := 2) dX8_tagAt_1 rfl rfl ?_
    refine g_iload_n (q := 3) dX8_tagAt_2 rfl rfl ?_
    refine gb_callV (q := 6) (j := 0) (i := 0) dX8_tagAt_3 rfl kv_X8_134 (c8_pos0 hs ((List.getElem?_eq_some_iff.mp hx).1) hr hD hB.1) rfl (by decide) hB rfl rfl rfl rfl (bz_le rfl) (by decide) (by decide) (fun r g1 hQ => ?_)
    obtain ⟨rfl, hg⟩ := hQ
    have hg := hg.symm
    subst hg
    refine g_aload_n (q := 7) dX8_tagAt_6 rfl rfl ?_
    refine gb_getf (q := 10) (j := 0) (i := 0) dX8_tagAt_7 rfl fl_X8_33 hB rfl rfl rfl rfl ?_
    refine g_iload_n (q := 11) dX8_tagAt_10 rfl rfl ?_
    refine gb_callV (q := 14) (j := 2) (i := 0) dX8_tagAt_11 rfl kv_X8_119 (c_portOf0 (hB.1.at (j := 2) rfl)) rfl (by decide) hB rfl rfl rfl rfl (bz_le rfl) (by decide) (by decide) (fun r g1 hQ => ?_)
    obtain ⟨rfl, hg⟩ := hQ
    have hg := hg.symm
    subst hg
    refine gb_getf (q := 17) (j := 2) (i := 1) dX8_tagAt_14 rfl fl_X8_123 hB rfl rfl rfl rfl ?_
    refine g_iload_n (q := 18) dX8_tagAt_17 rfl rfl ?_
    refine g_iconst (q := 19) (v := (nI 1)) dX8_tagAt_18 rfl (by decide) ?_
    refine gb_callV (q := 22) (j := 2) (i := 2) dX8_tagAt_19 rfl kv_X8_138 (c_get (p := k) (x := 1) (by have h1 := hr.2.1.2.2.1.len; have h2 : k < σ.2.1.1.length := (List.getElem?_eq_some_iff.mp hx).1; omega) ((hB.1.at (j := 2) rfl).sub 2 rfl)) rfl (by decide) hB rfl rfl rfl rfl (bz_le rfl) (by decide) (by decide) (fun r g1 hQ => ?_)
    obtain ⟨rfl, hg⟩ := hQ
    have hg := hg.symm
    subst hg
    refine g_eqi (v := tI x) ((hr.2.1.1.1 k x hx).2.1) ?_
    exact g_iret dX8_tagAt_22 rfl (⟨rfl, rfl⟩)
  · refine g_aload_n (q := 1) dX8_tagAt_0 rfl rfl ?_
    refine g_iload_n (q := 2) dX8_tagAt_1 rfl rfl ?_
    refine g_iload_n (q := 3) dX8_tagAt_2 rfl rfl ?_
    refine gb_callV (q := 6) (j := 0) (i := 0) dX8_tagAt_3 rfl kv_X8_134 (c8_pos0 hs ((List.getElem?_eq_some_iff.mp hx).1) hr hD hB.1) rfl (by decide) hB rfl rfl rfl rfl (bz_le rfl) (by decide) (by decide) (fun r g1 hQ => ?_)
    obtain ⟨rfl, hg⟩ := hQ
    have hg := hg.symm
    subst hg
    refine g_aload_n (q := 7) dX8_tagAt_6 rfl rfl ?_
    refine gb_getf (q := 10) (j := 0) (i := 0) dX8_tagAt_7 rfl fl_X8_33 hB rfl rfl rfl rfl ?_
    refine g_iload_n (q := 11) dX8_tagAt_10 rfl rfl ?_
    refine gb_callV (q := 14) (j := 2) (i := 0) dX8_tagAt_11 rfl kv_X8_119 (c_portOf1 (hB.1.at (j := 2) rfl)) rfl (by decide) hB rfl rfl rfl rfl (bz_le rfl) (by decide) (by decide) (fun r g1 hQ => ?_)
    obtain ⟨rfl, hg⟩ := hQ
    have hg := hg.symm
    subst hg
    refine gb_getf (q := 17) (j := 2) (i := 14) dX8_tagAt_14 rfl fl_X8_123 hB rfl rfl rfl rfl ?_
    refine g_iload_n (q := 18) dX8_tagAt_17 rfl rfl ?_
    refine g_iconst (q := 19) (v := (nI 1)) dX8_tagAt_18 rfl (by decide) ?_
    refine gb_callV (q := 22) (j := 2) (i := 15) dX8_tagAt_19 rfl kv_X8_138 (c_get (p := k) (x := 1) (by have h1 := hr.2.2.2.2.1.len; have h2 : k < σ.2.2.1.length := (List.getElem?_eq_some_iff.mp hx).1; omega) ((hB.1.at (j := 2) rfl).sub 15 rfl)) rfl (by decide) hB rfl rfl rfl rfl (bz_le rfl) (by decide) (by decide) (fun r g1 hQ => ?_)
    obtain ⟨rfl, hg⟩ := hQ
    have hg := hg.symm
    subst hg
    refine g_eqi (v := tI x) ((hr.2.2.1.1 k x hx).2.1) ?_
    exact g_iret dX8_tagAt_22 rfl (⟨rfl, rfl⟩)
set_option maxRecDepth 20000 in
set_option maxHeartbeats 1000000 in
theorem c8_tagState2 {l : Launch} {E : bz_E} {L : List Nat} {g : Nat → va_E} {o p q : Nat} {n er v0 v1 : Int32} {rp : PLR} {rS : SR} {σ : Si} {D : Pl} {v w : Int32} (hl : l.stackTraces = false) (hb : m_bad v 2 = true) (hr : s_srep rS σ) (hD : d_rep rp D) (hW : bz_W L g [(o, w_obj o p q n er v0 v1), (p, b_PL E p rp), (o + 27, b_Sit E (o + 27) rS)]) : bz_KX l E mX8_tagState 8 [.ref o, .int v, .int w] L g x_IOE := by
  refine bz_KX.of (by decide) (bz_le rfl) (fun sz => ?_)
  show bz_G _ _ _ _ _ _ _ _ _ _ _ _ 0 [(0, .ref o), (1, .int v), (2, .int w)] []
  refine g_aload_n (q := 1) dX8_tagState_0 rfl rfl ?_
  refine g_iload_n (q := 2) dX8_tagState_1 rfl rfl ?_
  refine g_iload_n (q := 3) dX8_tagState_2 rfl rfl ?_
  exact g_callVX dX8_tagState_3 (by decide +kernel) kv_X8_164 (c8_tag2 hl hb) rfl (by decide) (hW.at (j := 0) rfl 0 _ rfl).1 (hW.at (j := 0) rfl 0 _ rfl).2 rfl (bz_le rfl)
set_option maxRecDepth 20000 in
set_option maxHeartbeats 1000000 in
theorem c8_tagState1 {l : Launch} {E : bz_E} {L : List Nat} {g : Nat → va_E} {o p q : Nat} {n er v0 v1 : Int32} {rp : PLR} {rS : SR} {σ : Si} {D : Pl} {s : Nat} {w : Int32} (hl : l.stackTraces = false) (hs : s < 2) (hd8 : D.2.2.2.2.2.1 ≤ 8) (hb : m_bad w D.2.2.2.2.2.1 = true) (hr : s_srep rS σ) (hD : d_rep rp D) (hW : bz_W L g [(o, w_obj o p q n er v0 v1), (p, b_PL E p rp), (o + 27, b_Sit E (o + 27) rS)]) : bz_KX l E mX8_tagState 8 [.ref o, .int (nI s), .int w] L g x_IOE := by
  refine bz_KX.of (by decide) (bz_le rfl) (fun sz => ?_)
  show bz_G _ _ _ _ _ _ _ _ _ _ _ _ 0 [(0, .ref o), (1, .int (nI s)), (2, .int w)] []
  refine g_aload_n (q := 1) dX8_tagState_0 rfl rfl ?_
  refine g_iload_n (q := 2) dX8_tagState_1 rfl rfl ?_
  refine g_iload_n (q := 3) dX8_tagState_2 rfl rfl ?_
  exact g_callVX dX8_tagState_3 (by decide +kernel) kv_X8_164 (c8_tag1 hl hs hd8 hb hr hD hW) rfl (by decide) (hW.at (j := 0) rfl 0 _ rfl).1 (hW.at (j := 0) rfl 0 _ rfl).2 rfl (bz_le rfl)
set_option maxRecDepth 20000 in
set_option maxHeartbeats 1000000 in
theorem c8_tagState0 {l : Launch} {E : bz_E} {L : List Nat} {g : Nat → va_E} {o p q : Nat} {n er v0 v1 : Int32} {rp : PLR} {rS : SR} {σ : Si} {D : Pl} {s k : Nat} (hs : s < 2) (hd8 : D.2.2.2.2.2.1 ≤ 8) (hk : k < D.2.2.2.2.2.1) (hr : s_srep rS σ) (hD : d_rep rp D) (hW : bz_W L g [(o, w_obj o p q n er v0 v1), (p, b_PL E p rp), (o + 27, b_Sit E (o + 27) rS)]) : bz_K l E mX8_tagState 2 [.ref o, .int (nI s), .int (nI k)] L g (fun r g1 => r = some (.int (nI ((s_sd s σ).2.2.1.1 k))) ∧ g1 = g) := by
  refine bz_K.of (by decide) (bz_le rfl) (fun sz => ?_)
  have hB := bz_B.rf hW
  show bz_G _ _ _ _ _ _ _ _ _ _ _ _ 0 [(0, .ref o), (1, .int (nI s)), (2, .int (nI k))] []
  rcases (show s = 0 ∨ s = 1 by omega) with rfl | rfl
  · refine g_aload_n (q := 1) dX8_tagState_0 rfl rfl ?_
    refine g_iload_n (q := 2) dX8_tagState_1 rfl rfl ?_
    refine g_iload_n (q := 3) dX8_tagState_2 rfl rfl ?_
    refine gb_callV (q := 6) (j := 0) (i := 0) dX8_tagState_3 rfl kv_X8_164 (c8_tag0 hs hd8 hk hr hD hB.1) rfl (by decide) hB rfl rfl rfl rfl (bz_le rfl) (by decide) (by decide) (fun r g1 hQ => ?_)
    obtain ⟨rfl, hg⟩ := hQ
    have hg := hg.symm
    subst hg
    refine g_aload_n (q := 7) dX8_tagState_6 rfl rfl ?_
    refine gb_getf (q := 10) (j := 0) (i := 0) dX8_tagState_7 rfl fl_X8_33 hB rfl rfl rfl rfl ?_
    refine g_iload_n (q := 11) dX8_tagState_10 rfl rfl ?_
    refine gb_callV (q := 14) (j := 2) (i := 0) dX8_tagState_11 rfl kv_X8_119 (c_portOf0 (hB.1.at (j := 2) rfl)) rfl (by decide) hB rfl rfl rfl rfl (bz_le rfl) (by decide) (by decide) (fun r g1 hQ => ?_)
    obtain ⟨rfl, hg⟩ := hQ
    have hg := hg.symm
    subst hg
    refine gb_getf (q := 17) (j := 2) (i := 1) dX8_tagState_14 rfl fl_X8_167 hB rfl rfl rfl rfl ?_
    refine g_iload_n (q := 18) dX8_tagState_17 rfl rfl ?_
    refine gb_callV (q := 21) (j := 2) (i := 8) dX8_tagState_18 rfl kv_X8_171 (c_stateOf (t := k) (by omega) ((hB.1.at (j := 2) rfl).sub 8 rfl)) rfl (by decide) hB rfl rfl rfl rfl (bz_le rfl) (by decide) (by decide) (fun r g1 hQ => ?_)
    obtain ⟨rfl, hg⟩ := hQ
    have hg := hg.symm
    subst hg
    refine g_eqi (v := nI (σ.2.1.2.2.1.1 k)) ((hr.2.1.2.2.2.2.2.2.1.1 k (by omega)).1) ?_
    exact g_iret dX8_tagState_21 rfl (⟨rfl, rfl⟩)
  · refine g_aload_n (q := 1) dX8_tagState_0 rfl rfl ?_
    refine g_iload_n (q := 2) dX8_tagState_1 rfl rfl ?_
    refine g_iload_n (q := 3) dX8_tagState_2 rfl rfl ?_
    refine gb_callV (q := 6) (j := 0) (i := 0) dX8_tagState_3 rfl kv_X8_164 (c8_tag0 hs hd8 hk hr hD hB.1) rfl (by decide) hB rfl rfl rfl rfl (bz_le rfl) (by decide) (by decide) (fun r g1 hQ => ?_)
    obtain ⟨rfl, hg⟩ := hQ
    have hg := hg.symm
    subst hg
    refine g_aload_n (q := 7) dX8_tagState_6 rfl rfl ?_
    refine gb_getf (q := 10) (j := 0) (i := 0) dX8_tagState_7 rfl fl_X8_33 hB rfl rfl rfl rfl ?_
    refine g_iload_n (q := 11) dX8_tagState_10 rfl rfl ?_
    refine gb_callV (q := 14) (j := 2) (i := 0) dX8_tagState_11 rfl kv_X8_119 (c_portOf1 (hB.1.at (j := 2) rfl)) rfl (by decide) hB rfl rfl rfl rfl (bz_le rfl) (by decide) (by decide) (fun r g1 hQ => ?_)
    obtain ⟨rfl, hg⟩ := hQ
    have hg := hg.symm
    subst hg
    refine gb_getf (q := 17) (j := 2) (i := 14) dX8_tagState_14 rfl fl_X8_167 hB rfl rfl rfl rfl ?_
    refine g_iload_n (q := 18) dX8_tagState_17 rfl rfl ?_
    refine gb_callV (q := 21) (j := 2) (i := 21) dX8_tagState_18 rfl kv_X8_171 (c_stateOf (t := k) (by omega) ((hB.1.at (j := 2) rfl).sub 21 rfl)) rfl (by decide) hB rfl rfl rfl rfl (bz_le rfl) (by decide) (by decide) (fun r g1 hQ => ?_)
    obtain ⟨rfl, hg⟩ := hQ
    have hg := hg.symm
    subst hg
    refine g_eqi (v := nI (σ.2.2.2.2.1.1 k)) ((hr.2.2.2.2.2.2.2.2.1.1 k (by omega)).1) ?_
    exact g_iret dX8_tagState_21 rfl (⟨rfl, rfl⟩)
set_option maxRecDepth 20000 in
set_option maxHeartbeats 1000000 in
theorem c8_stored2 {l : Launch} {E : bz_E} {L : List Nat} {g : Nat → va_E} {o p q : Nat} {n er v0 v1 : Int32} {rp : PLR} {rS : SR} {σ : Si} {D : Pl} {v w : Int32} (hl : l.stackTraces = false) (hb : m_bad v 2 = true) (hr : s_srep rS σ) (hD : d_rep rp D) (hW : bz_W L g [(o, w_obj o p q n er v0 v1), (p, b_PL E p rp), (o + 27, b_Sit E (o + 27) rS)]) : bz_KX l E mX8_stored 8 [.ref o, .int v, .int w] L g x_IOE := by
  refine bz_KX.of (by decide) (bz_le rfl) (fun sz => ?_)
  show bz_G _ _ _ _ _ _ _ _ _ _ _ _ 0 [(0, .ref o), (1, .int v), (2, .int w)] []
  refine g_aload_n (q := 1) dX8_stored_0 rfl rfl ?_
  refine g_iload_n (q := 2) dX8_stored_1 rfl rfl ?_
  refine g_iload_n (q := 3) dX8_stored_2 rfl rfl ?_
  exact g_callVX dX8_stored_3 (by decide +kernel) kv_X8_164 (c8_tag2 hl hb) rfl (by decide) (hW.at (j := 0) rfl 0 _ rfl).1 (hW.at (j := 0) rfl 0 _ rfl).2 rfl (bz_le rfl)
set_option maxRecDepth 20000 in
set_option maxHeartbeats 1000000 in
theorem c8_stored1 {l : Launch} {E : bz_E} {L : List Nat} {g : Nat → va_E} {o p q : Nat} {n er v0 v1 : Int32} {rp : PLR} {rS : SR} {σ : Si} {D : Pl} {s : Nat} {w : Int32} (hl : l.stackTraces = false) (hs : s < 2) (hd8 : D.2.2.2.2.2.1 ≤ 8) (hb : m_bad w D.2.2.2.2.2.1 = true) (hr : s_srep rS σ) (hD : d_rep rp D) (hW : bz_W L g [(o, w_obj o p q n er v0 v1), (p, b_PL E p rp), (o + 27, b_Sit E (o + 27) rS)]) : bz_KX l E mX8_stored 8 [.ref o, .int (nI s), .int w] L g x_IOE := by
  refine bz_KX.of (by decide) (bz_le rfl) (fun sz => ?_)
  show bz_G _ _ _ _ _ _ _ _ _ _ _ _ 0 [(0, .ref o), (1, .int (nI s)), (2, .int w)] []
  refine g_aload_n (q := 1) dX8_stored_0 rfl rfl ?_
  refine g_iload_n (q := 2) dX8_stored_1 rfl rfl ?_
  refine g_iload_n (q := 3) dX8_stored_2 rfl rfl ?_
  exact g_callVX dX8_stored_3 (by decide +kernel) kv_X8_164 (c8_tag1 hl hs hd8 hb hr hD hW) rfl (by decide) (hW.at (j := 0) rfl 0 _ rfl).1 (hW.at (j := 0) rfl 0 _ rfl).2 rfl (bz_le rfl)
set_option maxRecDepth 20000 in
set_option maxHeartbeats 1000000 in
theorem c8_stored0 {l : Launch} {E : bz_E} {L : List Nat} {g : Nat → va_E} {o p q : Nat} {n er v0 v1 : Int32} {rp : PLR} {rS : SR} {σ : Si} {D : Pl} {s k : Nat} (hs : s < 2) (hd8 : D.2.2.2.2.2.1 ≤ 8) (hk : k < D.2.2.2.2.2.1) (hr : s_srep rS σ) (hD : d_rep rp D) (hW : bz_W L g [(o, w_obj o p q n er v0 v1), (p, b_PL E p rp), (o + 27, b_Sit E (o + 27) rS)]) : bz_K l E mX8_stored 2 [.ref o, .int (nI s), .int (nI k)] L g (fun r g1 => r = some (.int (nI (v_pc ((s_sd s σ).2.2.1.2.2.1 k)))) ∧ g1 = g) := by
  refine bz_K.of (by decide) (bz_le rfl) (fun sz => ?_)
  have hB := bz_B.rf hW
  show bz_G _ _ _ _ _ _ _ _ _ _ _ _ 0 [(0, .ref o), (1, .int (nI s)), (2, .int (nI k))] []
  rcases (show s = 0 ∨ s = 1 by omega) with rfl | rfl
  · refine g_aload_n (q := 1) dX8_stored_0 rfl rfl ?_
    refine g_iload_n (q := 2) dX8_stored_1 rfl rfl ?_
    refine g_iload_n (q := 3) dX8_stored_2 rfl rfl ?_
    refine gb_callV (q := 6) (j := 0) (i := 0) dX8_stored_3 rfl kv_X8_164 (c8_tag0 hs hd8 hk hr hD hB.1) rfl (by decide) hB rfl rfl rfl rfl (bz_le rfl) (by decide) (by decide) (fun r g1 hQ => ?_)
    obtain ⟨rfl, hg⟩ := hQ
    have hg := hg.symm
    subst hg
    refine g_aload_n (q := 7) dX8_stored_6 rfl rfl ?_
    refine gb_getf (q := 10) (j := 0) (i := 0) dX8_stored_7 rfl fl_X8_33 hB rfl rfl rfl rfl ?_
    refine g_iload_n (q := 11) dX8_stored_10 rfl rfl ?_
    refine gb_callV (q := 14) (j := 2) (i := 0) dX8_stored_11 rfl kv_X8_119 (c_portOf0 (hB.1.at (j := 2) rfl)) rfl (by decide) hB rfl rfl rfl rfl (bz_le rfl) (by decide) (by decide) (fun r g1 hQ => ?_)
    obtain ⟨rfl, hg⟩ := hQ
    have hg := hg.symm
    subst hg
    refine gb_getf (q := 17) (j := 2) (i := 1) dX8_stored_14 rfl fl_X8_167 hB rfl rfl rfl rfl ?_
    refine g_iload_n (q := 18) dX8_stored_17 rfl rfl ?_
    refine gb_callV (q := 21) (j := 2) (i := 8) dX8_stored_18 rfl kv_X8_176 (c_storedWords (t := k) (m := σ.2.1.2.2.1.2.2.1 k) (by omega) (hr.2.1.2.2.2.2.2.2.1.1 k (by omega)).2.2.2.2 (hr.2.1.2.2.2.2.2.2.1.1 k (by omega)).2.2.1 ((hB.1.at (j := 2) rfl).sub 8 rfl)) rfl (by decide) hB rfl rfl rfl rfl (bz_le rfl) (by decide) (by decide) (fun r g1 hQ => ?_)
    obtain ⟨rfl, hg⟩ := hQ
    have hg := hg.symm
    subst hg
    exact g_iret dX8_stored_21 rfl (⟨rfl, rfl⟩)
  · refine g_aload_n (q := 1) dX8_stored_0 rfl rfl ?_
    refine g_iload_n (q := 2) dX8_stored_1 rfl rfl ?_
    refine g_iload_n (q := 3) dX8_stored_2 rfl rfl ?_
    refine gb_callV (q := 6) (j := 0) (i := 0) dX8_stored_3 rfl kv_X8_164 (c8_tag0 hs hd8 hk hr hD hB.1) rfl (by decide) hB rfl rfl rfl rfl (bz_le rfl) (by decide) (by decide) (fun r g1 hQ => ?_)
    obtain ⟨rfl, hg⟩ := hQ
    have hg := hg.symm
    subst hg
    refine g_aload_n (q := 7) dX8_stored_6 rfl rfl ?_
    refine gb_getf (q := 10) (j := 0) (i := 0) dX8_stored_7 rfl fl_X8_33 hB rfl rfl rfl rfl ?_
    refine g_iload_n (q := 11) dX8_stored_10 rfl rfl ?_
    refine gb_callV (q := 14) (j := 2) (i := 0) dX8_stored_11 rfl kv_X8_119 (c_portOf1 (hB.1.at (j := 2) rfl)) rfl (by decide) hB rfl rfl rfl rfl (bz_le rfl) (by decide) (by decide) (fun r g1 hQ => ?_)
    obtain ⟨rfl, hg⟩ := hQ
    have hg := hg.symm
    subst hg
    refine gb_getf (q := 17) (j := 2) (i := 14) dX8_stored_14 rfl fl_X8_167 hB rfl rfl rfl rfl ?_
    refine g_iload_n (q := 18) dX8_stored_17 rfl rfl ?_
    refine gb_callV (q := 21) (j := 2) (i := 21) dX8_stored_18 rfl kv_X8_176 (c_storedWords (t := k) (m := σ.2.2.2.2.1.2.2.1 k) (by omega) (hr.2.2.2.2.2.2.2.2.1.1 k (by omega)).2.2.2.2 (hr.2.2.2.2.2.2.2.2.1.1 k (by omega)).2.2.1 ((hB.1.at (j := 2) rfl).sub 21 rfl)) rfl (by decide) hB rfl rfl rfl rfl (bz_le rfl) (by decide) (by decide) (fun r g1 hQ => ?_)
    obtain ⟨rfl, hg⟩ := hQ
    have hg := hg.symm
    subst hg
    exact g_iret dX8_stored_21 rfl (⟨rfl, rfl⟩)
set_option maxRecDepth 20000 in
set_option maxHeartbeats 1000000 in
theorem c8_data2 {l : Launch} {E : bz_E} {L : List Nat} {g : Nat → va_E} {o p q : Nat} {n er v0 v1 : Int32} {rp : PLR} {rS : SR} {σ : Si} {D : Pl} {v w : Int32} {z : Int32} (hl : l.stackTraces = false) (hb : m_bad v 2 = true) (hr : s_srep rS σ) (hD : d_rep rp D) (hW : bz_W L g [(o, w_obj o p q n er v0 v1), (p, b_PL E p rp), (o + 27, b_Sit E (o + 27) rS)]) : bz_KX l E mX8_data 8 [.ref o, .int v, .int w, .int z] L g x_IOE := by
  refine bz_KX.of (by decide) (bz_le rfl) (fun sz => ?_)
  show bz_G _ _ _ _ _ _ _ _ _ _ _ _ 0 [(0, .ref o), (1, .int v), (2, .int w), (3, .int z)] []
  refine g_aload_n (q := 1) dX8_data_0 rfl rfl ?_
  refine g_iload_n (q := 2) dX8_data_1 rfl rfl ?_
  refine g_iload_n (q := 3) dX8_data_2 rfl rfl ?_
  exact g_callVX dX8_data_3 (by decide +kernel) kv_X8_164 (c8_tag2 hl hb) rfl (by decide) (hW.at (j := 0) rfl 0 _ rfl).1 (hW.at (j := 0) rfl 0 _ rfl).2 rfl (bz_le rfl)
set_option maxRecDepth 20000 in
set_option maxHeartbeats 1000000 in
theorem c8_data1 {l : Launch} {E : bz_E} {L : List Nat} {g : Nat → va_E} {o p q : Nat} {n er v0 v1 : Int32} {rp : PLR} {rS : SR} {σ : Si} {D : Pl} {s : Nat} {w : Int32} {z : Int32} (hl : l.stackTraces = false) (hs : s < 2) (hd8 : D.2.2.2.2.2.1 ≤ 8) (hb : m_bad w D.2.2.2.2.2.1 = true) (hr : s_srep rS σ) (hD : d_rep rp D) (hW : bz_W L g [(o, w_obj o p q n er v0 v1), (p, b_PL E p rp), (o + 27, b_Sit E (o + 27) rS)]) : bz_KX l E mX8_data 8 [.ref o, .int (nI s), .int w, .int z] L g x_IOE := by
  refine bz_KX.of (by decide) (bz_le rfl) (fun sz => ?_)
  show bz_G _ _ _ _ _ _ _ _ _ _ _ _ 0 [(0, .ref o), (1, .int (nI s)), (2, .int w), (3, .int z)] []
  refine g_aload_n (q := 1) dX8_data_0 rfl rfl ?_
  refine g_iload_n (q := 2) dX8_data_1 rfl rfl ?_
  refine g_iload_n (q := 3) dX8_data_2 rfl rfl ?_
  exact g_callVX dX8_data_3 (by decide +kernel) kv_X8_164 (c8_tag1 hl hs hd8 hb hr hD hW) rfl (by decide) (hW.at (j := 0) rfl 0 _ rfl).1 (hW.at (j := 0) rfl 0 _ rfl).2 rfl (bz_le rfl)
set_option maxRecDepth 20000 in
set_option maxHeartbeats 1000000 in
theorem c8_data0 {l : Launch} {E : bz_E} {L : List Nat} {g : Nat → va_E} {o p q : Nat} {n er v0 v1 : Int32} {rp : PLR} {rS : SR} {σ : Si} {D : Pl} {s k i : Nat} (hs : s < 2) (hd8 : D.2.2.2.2.2.1 ≤ 8) (hk : k < D.2.2.2.2.2.1) (hi : i < 4) (ht : ((s_sd s σ).2.2.1.2.2.1 k).testBit i = true) (hr : s_srep rS σ) (hD : d_rep rp D) (hW : bz_W L g [(o, w_obj o p q n er v0 v1), (p, b_PL E p rp), (o + 27, b_Sit E (o + 27) rS)]) : bz_K l E mX8_data 2 [.ref o, .int (nI s), .int (nI k), .int (nI i)] L g (fun r g1 => r = some (.int ((s_sd s σ).2.2.1.2.2.2 (k * 4 + i))) ∧ g1 = g) := by
  refine bz_K.of (by decide) (bz_le rfl) (fun sz => ?_)
  have hB := bz_B.rf hW
  show bz_G _ _ _ _ _ _ _ _ _ _ _ _ 0 [(0, .ref o), (1, .int (nI s)), (2, .int (nI k)), (3, .int (nI i))] []
  rcases (show s = 0 ∨ s = 1 by omega) with rfl | rfl
  · refine g_aload_n (q := 1) dX8_data_0 rfl rfl ?_
    refine g_iload_n (q := 2) dX8_data_1 rfl rfl ?_
    refine g_iload_n (q := 3) dX8_data_2 rfl rfl ?_
    refine gb_callV (q := 6) (j := 0) (i := 0) dX8_data_3 rfl kv_X8_164 (c8_tag0 hs hd8 hk hr hD hB.1) rfl (by decide) hB rfl rfl rfl rfl (bz_le rfl) (by decide) (by decide) (fun r g1 hQ => ?_)
    obtain ⟨rfl, hg⟩ := hQ
    have hg := hg.symm
    subst hg
    refine g_aload_n (q := 7) dX8_data_6 rfl rfl ?_
    refine gb_getf (q := 10) (j := 0) (i := 0) dX8_data_7 rfl fl_X8_33 hB rfl rfl rfl rfl ?_
    refine g_iload_n (q := 11) dX8_data_10 rfl rfl ?_
    refine gb_callV (q := 14) (j := 2) (i := 0) dX8_data_11 rfl kv_X8_119 (c_portOf0 (hB.1.at (j := 2) rfl)) rfl (by decide) hB rfl rfl rfl rfl (bz_le rfl) (by decide) (by decide) (fun r g1 hQ => ?_)
    obtain ⟨rfl, hg⟩ := hQ
    have hg := hg.symm
    subst hg
    refine gb_getf (q := 17) (j := 2) (i := 1) dX8_data_14 rfl fl_X8_167 hB rfl rfl rfl rfl ?_
    refine g_astore (q := 19) dX8_data_17 rfl (by decide) rfl ?_
    refine g_aload (q := 21) dX8_data_19 rfl rfl ?_
    refine g_iload_n (q := 22) dX8_data_21 rfl rfl ?_
    refine g_iload_n (q := 23) dX8_data_22 rfl rfl ?_
    refine gb_callV (q := 26) (j := 2) (i := 8) dX8_data_23 rfl kv_X8_179 (c_hasWord (t := k) (by omega) ((hB.1.at (j := 2) rfl).sub 8 rfl)) rfl (by decide) hB rfl rfl rfl rfl (bz_le rfl) (by decide) (by decide) (fun r g1 hQ => ?_)
    obtain ⟨rfl, hg⟩ := hQ
    have hg := hg.symm
    subst hg
    refine g_eqi (v := tB ((σ.2.1.2.2.1.2.2.1 k).testBit i)) (by rw [(hr.2.1.2.2.2.2.2.2.1.1 k (by omega)).2.2.1]; exact w_hw _ (hr.2.1.2.2.2.2.2.2.1.1 k (by omega)).2.2.2.2 i hi) ?_
    rw [show (σ.2.1.2.2.1.2.2.1 k).testBit i = _ from ht]
    refine g_if_ne (q := 29) (t := 39) dX8_data_26 rfl (by decide) (fun _ => ?_) (fun c => absurd c ((by decide : ¬ tB true = 0)))
    refine g_aload (q := 41) dX8_data_39 rfl rfl ?_
    refine g_iload_n (q := 42) dX8_data_41 rfl rfl ?_
    refine g_iload_n (q := 43) dX8_data_42 rfl rfl ?_
    refine gb_callV (q := 46) (j := 2) (i := 8) dX8_data_43 rfl kv_X8_187 (c_wordOf (t := k) (x := i) (by omega) ((hB.1.at (j := 2) rfl).sub 8 rfl)) rfl (by decide) hB rfl rfl rfl rfl (bz_le rfl) (by decide) (by decide) (fun r g1 hQ => ?_)
    obtain ⟨rfl, hg⟩ := hQ
    have hg := hg.symm
    subst hg
    refine g_eqi (v := σ.2.1.2.2.1.2.2.2 (k * 4 + i)) (hr.2.1.2.2.2.2.2.2.1.2 _ (by omega)) ?_
    exact g_iret dX8_data_46 rfl (⟨rfl, rfl⟩)
  · refine g_aload_n (q := 1) dX8_data_0 rfl rfl ?_
    refine g_iload_n (q := 2) dX8_data_1 rfl rfl ?_
    refine g_iload_n (q := 3) dX8_data_2 rfl rfl ?_
    refine gb_callV (q := 6) (j := 0) (i := 0) dX8_data_3 rfl kv_X8_164 (c8_tag0 hs hd8 hk hr hD hB.1) rfl (by decide) hB rfl rfl rfl rfl (bz_le rfl) (by decide) (by decide) (fun r g1 hQ => ?_)
    obtain ⟨rfl, hg⟩ := hQ
    have hg := hg.symm
    subst hg
    refine g_aload_n (q := 7) dX8_data_6 rfl rfl ?_
    refine gb_getf (q := 10) (j := 0) (i := 0) dX8_data_7 rfl fl_X8_33 hB rfl rfl rfl rfl ?_
    refine g_iload_n (q := 11) dX8_data_10 rfl rfl ?_
    refine gb_callV (q := 14) (j := 2) (i := 0) dX8_data_11 rfl kv_X8_119 (c_portOf1 (hB.1.at (j := 2) rfl)) rfl (by decide) hB rfl rfl rfl rfl (bz_le rfl) (by decide) (by decide) (fun r g1 hQ => ?_)
    obtain ⟨rfl, hg⟩ := hQ
    have hg := hg.symm
    subst hg
    refine gb_getf (q := 17) (j := 2) (i := 14) dX8_data_14 rfl fl_X8_167 hB rfl rfl rfl rfl ?_
    refine g_astore (q := 19) dX8_data_17 rfl (by decide) rfl ?_
    refine g_aload (q := 21) dX8_data_19 rfl rfl ?_
    refine g_iload_n (q := 22) dX8_data_21 rfl rfl ?_
    refine g_iload_n (q := 23) dX8_data_22 rfl rfl ?_
    refine gb_callV (q := 26) (j := 2) (i := 21) dX8_data_23 rfl kv_X8_179 (c_hasWord (t := k) (by omega) ((hB.1.at (j := 2) rfl).sub 21 rfl)) rfl (by decide) hB rfl rfl rfl rfl (bz_le rfl) (by decide) (by decide) (fun r g1 hQ => ?_)
    obtain ⟨rfl, hg⟩ := hQ
    have hg := hg.symm
    subst hg
    refine g_eqi (v := tB ((σ.2.2.2.2.1.2.2.1 k).testBit i)) (by rw [(hr.2.2.2.2.2.2.2.2.1.1 k (by omega)).2.2.1]; exact w_hw _ (hr.2.2.2.2.2.2.2.2.1.1 k (by omega)).2.2.2.2 i hi) ?_
    rw [show (σ.2.2.2.2.1.2.2.1 k).testBit i = _ from ht]
    refine g_if_ne (q := 29) (t := 39) dX8_data_26 rfl (by decide) (fun _ => ?_) (fun c => absurd c ((by decide : ¬ tB true = 0)))
    refine g_aload (q := 41) dX8_data_39 rfl rfl ?_
    refine g_iload_n (q := 42) dX8_data_41 rfl rfl ?_
    refine g_iload_n (q := 43) dX8_data_42 rfl rfl ?_
    refine gb_callV (q := 46) (j := 2) (i := 21) dX8_data_43 rfl kv_X8_187 (c_wordOf (t := k) (x := i) (by omega) ((hB.1.at (j := 2) rfl).sub 21 rfl)) rfl (by decide) hB rfl rfl rfl rfl (bz_le rfl) (by decide) (by decide) (fun r g1 hQ => ?_)
    obtain ⟨rfl, hg⟩ := hQ
    have hg := hg.symm
    subst hg
    refine g_eqi (v := σ.2.2.2.2.1.2.2.2 (k * 4 + i)) (hr.2.2.2.2.2.2.2.2.1.2 _ (by omega)) ?_
    exact g_iret dX8_data_46 rfl (⟨rfl, rfl⟩)
set_option maxRecDepth 20000 in
set_option maxHeartbeats 1000000 in
theorem c8_data4 {l : Launch} {E : bz_E} {L : List Nat} {g : Nat → va_E} {o p q : Nat} {n er v0 v1 : Int32} {rp : PLR} {rS : SR} {σ : Si} {D : Pl} {s k i : Nat} (hl : l.stackTraces = false) (hs : s < 2) (hd8 : D.2.2.2.2.2.1 ≤ 8) (hk : k < D.2.2.2.2.2.1) (hi : i < 4) (ht : ((s_sd s σ).2.2.1.2.2.1 k).testBit i = false) (hr : s_srep rS σ) (hD : d_rep rp D) (hW : bz_W L g [(o, w_obj o p q n er v0 v1), (p, b_PL E p rp), (o + 27, b_Sit E (o + 27) rS)]) : bz_KX l E mX8_data 6 [.ref o, .int (nI s), .int (nI k), .int (nI i)] L g x_ISE := by
  refine bz_KX.of (by decide) (bz_le rfl) (fun sz => ?_)
  have hB := bz_B.rf hW
  show bz_G _ _ _ _ _ _ _ _ _ _ _ _ 0 [(0, .ref o), (1, .int (nI s)), (2, .int (nI k)), (3, .int (nI i))] []
  rcases (show s = 0 ∨ s = 1 by omega) with rfl | rfl
  · refine g_aload_n (q := 1) dX8_data_0 rfl rfl ?_
    refine g_iload_n (q := 2) dX8_data_1 rfl rfl ?_
    refine g_iload_n (q := 3) dX8_data_2 rfl rfl ?_
    refine gb_callV (q := 6) (j := 0) (i := 0) dX8_data_3 rfl kv_X8_164 (c8_tag0 hs hd8 hk hr hD hB.1) rfl (by decide) hB rfl rfl rfl rfl (bz_le rfl) (by decide) (by decide) (fun r g1 hQ => ?_)
    obtain ⟨rfl, hg⟩ := hQ
    have hg := hg.symm
    subst hg
    refine g_aload_n (q := 7) dX8_data_6 rfl rfl ?_
    refine gb_getf (q := 10) (j := 0) (i := 0) dX8_data_7 rfl fl_X8_33 hB rfl rfl rfl rfl ?_
    refine g_iload_n (q := 11) dX8_data_10 rfl rfl ?_
    refine gb_callV (q := 14) (j := 2) (i := 0) dX8_data_11 rfl kv_X8_119 (c_portOf0 (hB.1.at (j := 2) rfl)) rfl (by decide) hB rfl rfl rfl rfl (bz_le rfl) (by decide) (by decide) (fun r g1 hQ => ?_)
    obtain ⟨rfl, hg⟩ := hQ
    have hg := hg.symm
    subst hg
    refine gb_getf (q := 17) (j := 2) (i := 1) dX8_data_14 rfl fl_X8_167 hB rfl rfl rfl rfl ?_
    refine g_astore (q := 19) dX8_data_17 rfl (by decide) rfl ?_
    refine g_aload (q := 21) dX8_data_19 rfl rfl ?_
    refine g_iload_n (q := 22) dX8_data_21 rfl rfl ?_
    refine g_iload_n (q := 23) dX8_data_22 rfl rfl ?_
    refine gb_callV (q := 26) (j := 2) (i := 8) dX8_data_23 rfl kv_X8_179 (c_hasWord (t := k) (by omega) ((hB.1.at (j := 2) rfl).sub 8 rfl)) rfl (by decide) hB rfl rfl rfl rfl (bz_le rfl) (by decide) (by decide) (fun r g1 hQ => ?_)
    obtain ⟨rfl, hg⟩ := hQ
    have hg := hg.symm
    subst hg
    refine g_eqi (v := tB ((σ.2.1.2.2.1.2.2.1 k).testBit i)) (by rw [(hr.2.1.2.2.2.2.2.2.1.1 k (by omega)).2.2.1]; exact w_hw _ (hr.2.1.2.2.2.2.2.2.1.1 k (by omega)).2.2.2.2 i hi) ?_
    rw [show (σ.2.1.2.2.1.2.2.1 k).testBit i = _ from ht]
    refine g_if_ne (q := 29) (t := 39) dX8_data_26 rfl (by decide) (fun c => absurd c (fun h => h rfl)) (fun _ => ?_)
    exact g_throw (is := 184) (tx := "this word has not been stored") (i := 17) hl rfl (by decide +kernel) (by decide) tx_ISE xk_ISE (by decide +kernel) (bz_le rfl) dX8_data_29 dX8_data_32 dX8_data_33 dX8_data_35 dX8_data_38
  · refine g_aload_n (q := 1) dX8_data_0 rfl rfl ?_
    refine g_iload_n (q := 2) dX8_data_1 rfl rfl ?_
    refine g_iload_n (q := 3) dX8_data_2 rfl rfl ?_
    refine gb_callV (q := 6) (j := 0) (i := 0) dX8_data_3 rfl kv_X8_164 (c8_tag0 hs hd8 hk hr hD hB.1) rfl (by decide) hB rfl rfl rfl rfl (bz_le rfl) (by decide) (by decide) (fun r g1 hQ => ?_)
    obtain ⟨rfl, hg⟩ := hQ
    have hg := hg.symm
    subst hg
    refine g_aload_n (q := 7) dX8_data_6 rfl rfl ?_
    refine gb_getf (q := 10) (j := 0) (i := 0) dX8_data_7 rfl fl_X8_33 hB rfl rfl rfl rfl ?_
    refine g_iload_n (q := 11) dX8_data_10 rfl rfl ?_
    refine gb_callV (q := 14) (j := 2) (i := 0) dX8_data_11 rfl kv_X8_119 (c_portOf1 (hB.1.at (j := 2) rfl)) rfl (by decide) hB rfl rfl rfl rfl (bz_le rfl) (by decide) (by decide) (fun r g1 hQ => ?_)
    obtain ⟨rfl, hg⟩ := hQ
    have hg := hg.symm
    subst hg
    refine gb_getf (q := 17) (j := 2) (i := 14) dX8_data_14 rfl fl_X8_167 hB rfl rfl rfl rfl ?_
    refine g_astore (q := 19) dX8_data_17 rfl (by decide) rfl ?_
    refine g_aload (q := 21) dX8_data_19 rfl rfl ?_
    refine g_iload_n (q := 22) dX8_data_21 rfl rfl ?_
    refine g_iload_n (q := 23) dX8_data_22 rfl rfl ?_
    refine gb_callV (q := 26) (j := 2) (i := 21) dX8_data_23 rfl kv_X8_179 (c_hasWord (t := k) (by omega) ((hB.1.at (j := 2) rfl).sub 21 rfl)) rfl (by decide) hB rfl rfl rfl rfl (bz_le rfl) (by decide) (by decide) (fun r g1 hQ => ?_)
    obtain ⟨rfl, hg⟩ := hQ
    have hg := hg.symm
    subst hg
    refine g_eqi (v := tB ((σ.2.2.2.2.1.2.2.1 k).testBit i)) (by rw [(hr.2.2.2.2.2.2.2.2.1.1 k (by omega)).2.2.1]; exact w_hw _ (hr.2.2.2.2.2.2.2.2.1.1 k (by omega)).2.2.2.2 i hi) ?_
    rw [show (σ.2.2.2.2.1.2.2.1 k).testBit i = _ from ht]
    refine g_if_ne (q := 29) (t := 39) dX8_data_26 rfl (by decide) (fun c => absurd c (fun h => h rfl)) (fun _ => ?_)
    exact g_throw (is := 184) (tx := "this word has not been stored") (i := 17) hl rfl (by decide +kernel) (by decide) tx_ISE xk_ISE (by decide +kernel) (bz_le rfl) dX8_data_29 dX8_data_32 dX8_data_33 dX8_data_35 dX8_data_38
set_option maxRecDepth 20000 in
set_option maxHeartbeats 1000000 in
theorem c8_data3 {l : Launch} {E : bz_E} {L : List Nat} {g : Nat → va_E} {o p q : Nat} {n er v0 v1 : Int32} {rp : PLR} {rS : SR} {σ : Si} {D : Pl} {s k : Nat} {z : Int32} (hl : l.stackTraces = false) (hs : s < 2) (hd8 : D.2.2.2.2.2.1 ≤ 8) (hk : k < D.2.2.2.2.2.1) (hb : m_bad z 4 = true) (hr : s_srep rS σ) (hD : d_rep rp D) (hW : bz_W L g [(o, w_obj o p q n er v0 v1), (p, b_PL E p rp), (o + 27, b_Sit E (o + 27) rS)]) : bz_KX l E mX8_data 6 [.ref o, .int (nI s), .int (nI k), .int z] L g x_ISE := by
  refine bz_KX.of (by decide) (bz_le rfl) (fun sz => ?_)
  have hB := bz_B.rf hW
  show bz_G _ _ _ _ _ _ _ _ _ _ _ _ 0 [(0, .ref o), (1, .int (nI s)), (2, .int (nI k)), (3, .int z)] []
  rcases (show s = 0 ∨ s = 1 by omega) with rfl | rfl
  · refine g_aload_n (q := 1) dX8_data_0 rfl rfl ?_
    refine g_iload_n (q := 2) dX8_data_1 rfl rfl ?_
    refine g_iload_n (q := 3) dX8_data_2 rfl rfl ?_
    refine gb_callV (q := 6) (j := 0) (i := 0) dX8_data_3 rfl kv_X8_164 (c8_tag0 hs hd8 hk hr hD hB.1) rfl (by decide) hB rfl rfl rfl rfl (bz_le rfl) (by decide) (by decide) (fun r g1 hQ => ?_)
    obtain ⟨rfl, hg⟩ := hQ
    have hg := hg.symm
    subst hg
    refine g_aload_n (q := 7) dX8_data_6 rfl rfl ?_
    refine gb_getf (q := 10) (j := 0) (i := 0) dX8_data_7 rfl fl_X8_33 hB rfl rfl rfl rfl ?_
    refine g_iload_n (q := 11) dX8_data_10 rfl rfl ?_
    refine gb_callV (q := 14) (j := 2) (i := 0) dX8_data_11 rfl kv_X8_119 (c_portOf0 (hB.1.at (j := 2) rfl)) rfl (by decide) hB rfl rfl rfl rfl (bz_le rfl) (by decide) (by decide) (fun r g1 hQ => ?_)
    obtain ⟨rfl, hg⟩ := hQ
    have hg := hg.symm
    subst hg
    refine gb_getf (q := 17) (j := 2) (i := 1) dX8_data_14 rfl fl_X8_167 hB rfl rfl rfl rfl ?_
    refine g_astore (q := 19) dX8_data_17 rfl (by decide) rfl ?_
    refine g_aload (q := 21) dX8_data_19 rfl rfl ?_
    refine g_iload_n (q := 22) dX8_data_21 rfl rfl ?_
    refine g_iload_n (q := 23) dX8_data_22 rfl rfl ?_
    refine gb_callV (q := 26) (j := 2) (i := 8) dX8_data_23 rfl kv_X8_179 (c_hasWord (t := k) (by omega) ((hB.1.at (j := 2) rfl).sub 8 rfl)) rfl (by decide) hB rfl rfl rfl rfl (bz_le rfl) (by decide) (by decide) (fun r g1 hQ => ?_)
    obtain ⟨rfl, hg⟩ := hQ
    have hg := hg.symm
    subst hg
    refine g_eqi (v := 0) (w_hb hb) ?_
    refine g_if_ne (q := 29) (t := 39) dX8_data_26 rfl (by decide) (fun c => absurd c (fun h => h rfl)) (fun _ => ?_)
    exact g_throw (is := 184) (tx := "this word has not been stored") (i := 17) hl rfl (by decide +kernel) (by decide) tx_ISE xk_ISE (by decide +kernel) (bz_le rfl) dX8_data_29 dX8_data_32 dX8_data_33 dX8_data_35 dX8_data_38
  · refine g_aload_n (q := 1) dX8_data_0 rfl rfl ?_
    refine g_iload_n (q := 2) dX8_data_1 rfl rfl ?_
    refine g_iload_n (q := 3) dX8_data_2 rfl rfl ?_
    refine gb_callV (q := 6) (j := 0) (i := 0) dX8_data_3 rfl kv_X8_164 (c8_tag0 hs hd8 hk hr hD hB.1) rfl (by decide) hB rfl rfl rfl rfl (bz_le rfl) (by decide) (by decide) (fun r g1 hQ => ?_)
    obtain ⟨rfl, hg⟩ := hQ
    have hg := hg.symm
    subst hg
    refine g_aload_n (q := 7) dX8_data_6 rfl rfl ?_
    refine gb_getf (q := 10) (j := 0) (i := 0) dX8_data_7 rfl fl_X8_33 hB rfl rfl rfl rfl ?_
    refine g_iload_n (q := 11) dX8_data_10 rfl rfl ?_
    refine gb_callV (q := 14) (j := 2) (i := 0) dX8_data_11 rfl kv_X8_119 (c_portOf1 (hB.1.at (j := 2) rfl)) rfl (by decide) hB rfl rfl rfl rfl (bz_le rfl) (by decide) (by decide) (fun r g1 hQ => ?_)
    obtain ⟨rfl, hg⟩ := hQ
    have hg := hg.symm
    subst hg
    refine gb_getf (q := 17) (j := 2) (i := 14) dX8_data_14 rfl fl_X8_167 hB rfl rfl rfl rfl ?_
    refine g_astore (q := 19) dX8_data_17 rfl (by decide) rfl ?_
    refine g_aload (q := 21) dX8_data_19 rfl rfl ?_
    refine g_iload_n (q := 22) dX8_data_21 rfl rfl ?_
    refine g_iload_n (q := 23) dX8_data_22 rfl rfl ?_
    refine gb_callV (q := 26) (j := 2) (i := 21) dX8_data_23 rfl kv_X8_179 (c_hasWord (t := k) (by omega) ((hB.1.at (j := 2) rfl).sub 21 rfl)) rfl (by decide) hB rfl rfl rfl rfl (bz_le rfl) (by decide) (by decide) (fun r g1 hQ => ?_)
    obtain ⟨rfl, hg⟩ := hQ
    have hg := hg.symm
    subst hg
    refine g_eqi (v := 0) (w_hb hb) ?_
    refine g_if_ne (q := 29) (t := 39) dX8_data_26 rfl (by decide) (fun c => absurd c (fun h => h rfl)) (fun _ => ?_)
    exact g_throw (is := 184) (tx := "this word has not been stored") (i := 17) hl rfl (by decide +kernel) (by decide) tx_ISE xk_ISE (by decide +kernel) (bz_le rfl) dX8_data_29 dX8_data_32 dX8_data_33 dX8_data_35 dX8_data_38
set_option maxRecDepth 20000 in
set_option maxHeartbeats 1000000 in
theorem c8_held2 {l : Launch} {E : bz_E} {L : List Nat} {g : Nat → va_E} {o : Nat} {v w : Int32} (hl : l.stackTraces = false) (hb : m_bad v 2 = true) : bz_KX l E mX8_held 7 [.ref o, .int v, .int w] L g x_IOE := by
  refine bz_KX.of (by decide) (bz_le rfl) (fun sz => ?_)
  show bz_G _ _ _ _ _ _ _ _ _ _ _ _ 0 [(0, .ref o), (1, .int v), (2, .int w)] []
  refine g_iload_n (q := 1) dX8_held_0 rfl rfl ?_
  exact g_callSX dX8_held_1 (by decide +kernel) ks_X8_116 rfl (c8_checkSide1 hl hb) (by decide) rfl (bz_le rfl)
set_option maxRecDepth 20000 in
set_option maxHeartbeats 1000000 in
theorem c8_held1 {l : Launch} {E : bz_E} {L : List Nat} {g : Nat → va_E} {o s : Nat} {w : Int32} (hl : l.stackTraces = false) (hs : s < 2) (hb : m_bad w 4 = true) : bz_KX l E mX8_held 7 [.ref o, .int (nI s), .int w] L g x_IOE := by
  refine bz_KX.of (by decide) (bz_le rfl) (fun sz => ?_)
  show bz_G _ _ _ _ _ _ _ _ _ _ _ _ 0 [(0, .ref o), (1, .int (nI s)), (2, .int w)] []
  refine g_iload_n (q := 1) dX8_held_0 rfl rfl ?_
  refine g_callS (q := 4) dX8_held_1 rfl ks_X8_116 rfl (c8_checkSide0 hs) (by decide) rfl (bz_le rfl) (by decide) (by decide) (fun r g1 hQ => ?_)
  obtain ⟨rfl, hg⟩ := hQ
  have hg := hg.symm
  subst hg
  refine g_iload_n (q := 5) dX8_held_4 rfl rfl ?_
  exact g_callSX dX8_held_5 (by decide +kernel) ks_X8_101 rfl (c8_checkKind1 hl hb) (by decide) rfl (bz_le rfl)
set_option maxRecDepth 20000 in
set_option maxHeartbeats 1000000 in
theorem c8_held0 {l : Launch} {E : bz_E} {L : List Nat} {g : Nat → va_E} {o p q : Nat} {n er v0 v1 : Int32} {rp : PLR} {rS : SR} {σ : Si} {D : Pl} {s k : Nat} (hs : s < 2) (hk : k < 4) (hr : s_srep rS σ) (hD : d_rep rp D) (hW : bz_W L g [(o, w_obj o p q n er v0 v1), (p, b_PL E p rp), (o + 27, b_Sit E (o + 27) rS)]) : bz_K l E mX8_held 2 [.ref o, .int (nI s), .int (nI k)] L g (fun r g1 => r = some (.int (nI (s_cnt k (s_sd s σ).2.1))) ∧ g1 = g) := by
  refine bz_K.of (by decide) (bz_le rfl) (fun sz => ?_)
  have hB := bz_B.rf hW
  show bz_G _ _ _ _ _ _ _ _ _ _ _ _ 0 [(0, .ref o), (1, .int (nI s)), (2, .int (nI k))] []
  rcases (show s = 0 ∨ s = 1 by omega) with rfl | rfl
  · refine g_iload_n (q := 1) dX8_held_0 rfl rfl ?_
    refine g_callS (q := 4) dX8_held_1 rfl ks_X8_116 rfl (c8_checkSide0 hs) (by decide) rfl (bz_le rfl) (by decide) (by decide) (fun r g1 hQ => ?_)
    obtain ⟨rfl, hg⟩ := hQ
    have hg := hg.symm
    subst hg
    refine g_iload_n (q := 5) dX8_held_4 rfl rfl ?_
    refine g_callS (q := 8) dX8_held_5 rfl ks_X8_101 rfl (c8_checkKind0 hk) (by decide) rfl (bz_le rfl) (by decide) (by decide) (fun r g1 hQ => ?_)
    obtain ⟨rfl, hg⟩ := hQ
    have hg := hg.symm
    subst hg
    refine g_aload_n (q := 9) dX8_held_8 rfl rfl ?_
    refine gb_getf (q := 12) (j := 0) (i := 0) dX8_held_9 rfl fl_X8_33 hB rfl rfl rfl rfl ?_
    refine g_iload_n (q := 13) dX8_held_12 rfl rfl ?_
    refine gb_callV (q := 16) (j := 2) (i := 0) dX8_held_13 rfl kv_X8_119 (c_portOf0 (hB.1.at (j := 2) rfl)) rfl (by decide) hB rfl rfl rfl rfl (bz_le rfl) (by decide) (by decide) (fun r g1 hQ => ?_)
    obtain ⟨rfl, hg⟩ := hQ
    have hg := hg.symm
    subst hg
    refine gb_getf (q := 19) (j := 2) (i := 1) dX8_held_16 rfl fl_X8_149 hB rfl rfl rfl rfl ?_
    refine g_iload_n (q := 20) dX8_held_19 rfl rfl ?_
    refine gb_callV (q := 23) (j := 2) (i := 5) dX8_held_20 rfl kv_X8_152 (c_countOf (k := k) (by omega) ((hB.1.at (j := 2) rfl).sub 5 rfl)) rfl (by decide) hB rfl rfl rfl rfl (bz_le rfl) (by decide) (by decide) (fun r g1 hQ => ?_)
    obtain ⟨rfl, hg⟩ := hQ
    have hg := hg.symm
    subst hg
    refine g_eqi (v := nI (s_cnt k σ.2.1.2.1)) (hr.2.1.2.2.2.1.2 k hk) ?_
    exact g_iret dX8_held_23 rfl (⟨rfl, rfl⟩)
  · refine g_iload_n (q := 1) dX8_held_0 rfl rfl ?_
    refine g_callS (q := 4) dX8_held_1 rfl ks_X8_116 rfl (c8_checkSide0 hs) (by decide) rfl (bz_le rfl) (by decide) (by decide) (fun r g1 hQ => ?_)
    obtain ⟨rfl, hg⟩ := hQ
    have hg := hg.symm
    subst hg
    refine g_iload_n (q := 5) dX8_held_4 rfl rfl ?_
    refine g_callS (q := 8) dX8_held_5 rfl ks_X8_101 rfl (c8_checkKind0 hk) (by decide) rfl (bz_le rfl) (by decide) (by decide) (fun r g1 hQ => ?_)
    obtain ⟨rfl, hg⟩ := hQ
    have hg := hg.symm
    subst hg
    refine g_aload_n (q := 9) dX8_held_8 rfl rfl ?_
    refine gb_getf (q := 12) (j := 0) (i := 0) dX8_held_9 rfl fl_X8_33 hB rfl rfl rfl rfl ?_
    refine g_iload_n (q := 13) dX8_held_12 rfl rfl ?_
    refine gb_callV (q := 16) (j := 2) (i := 0) dX8_held_13 rfl kv_X8_119 (c_portOf1 (hB.1.at (j := 2) rfl)) rfl (by decide) hB rfl rfl rfl rfl (bz_le rfl) (by decide) (by decide) (fun r g1 hQ => ?_)
    obtain ⟨rfl, hg⟩ := hQ
    have hg := hg.symm
    subst hg
    refine gb_getf (q := 19) (j := 2) (i := 14) dX8_held_16 rfl fl_X8_149 hB rfl rfl rfl rfl ?_
    refine g_iload_n (q := 20) dX8_held_19 rfl rfl ?_
    refine gb_callV (q := 23) (j := 2) (i := 18) dX8_held_20 rfl kv_X8_152 (c_countOf (k := k) (by omega) ((hB.1.at (j := 2) rfl).sub 18 rfl)) rfl (by decide) hB rfl rfl rfl rfl (bz_le rfl) (by decide) (by decide) (fun r g1 hQ => ?_)
    obtain ⟨rfl, hg⟩ := hQ
    have hg := hg.symm
    subst hg
    refine g_eqi (v := nI (s_cnt k σ.2.2.2.1)) (hr.2.2.2.2.2.1.2 k hk) ?_
    exact g_iret dX8_held_23 rfl (⟨rfl, rfl⟩)
set_option maxRecDepth 20000 in
set_option maxHeartbeats 1000000 in
theorem c8_word2 {l : Launch} {E : bz_E} {L : List Nat} {g : Nat → va_E} {o : Nat} {v w : Int32} (hl : l.stackTraces = false) (hb : m_bad v 2 = true) : bz_KX l E mX8_word 7 [.ref o, .int v, .int w] L g x_IOE := by
  refine bz_KX.of (by decide) (bz_le rfl) (fun sz => ?_)
  show bz_G _ _ _ _ _ _ _ _ _ _ _ _ 0 [(0, .ref o), (1, .int v), (2, .int w)] []
  refine g_iload_n (q := 1) dX8_word_0 rfl rfl ?_
  exact g_callSX dX8_word_1 (by decide +kernel) ks_X8_116 rfl (c8_checkSide1 hl hb) (by decide) rfl (bz_le rfl)
set_option maxRecDepth 20000 in
set_option maxHeartbeats 1000000 in
theorem c8_word1 {l : Launch} {E : bz_E} {L : List Nat} {g : Nat → va_E} {o s : Nat} {w : Int32} (hl : l.stackTraces = false) (hs : s < 2) (hb : m_bad w 16 = true) : bz_KX l E mX8_word 6 [.ref o, .int (nI s), .int w] L g x_IOE := by
  refine bz_KX.of (by decide) (bz_le rfl) (fun sz => ?_)
  show bz_G _ _ _ _ _ _ _ _ _ _ _ _ 0 [(0, .ref o), (1, .int (nI s)), (2, .int w)] []
  refine g_iload_n (q := 1) dX8_word_0 rfl rfl ?_
  refine g_callS (q := 4) dX8_word_1 rfl ks_X8_116 rfl (c8_checkSide0 hs) (by decide) rfl (bz_le rfl) (by decide) (by decide) (fun r g1 hQ => ?_)
  obtain ⟨rfl, hg⟩ := hQ
  have hg := hg.symm
  subst hg
  refine g_iload_n (q := 5) dX8_word_4 rfl rfl ?_
  refine g_if_lt (q := 8) (t := 14) dX8_word_5 rfl (by decide) (fun c_5 => ?_) (fun c_5 => ?_)
  · exact g_throw (is := 158) (tx := "no such address") (i := 15) hl rfl (by decide +kernel) (by decide) tx_IOE xk_IOE (by decide +kernel) (bz_le rfl) dX8_word_14 dX8_word_17 dX8_word_18 dX8_word_20 dX8_word_23
  · refine g_iload_n (q := 9) dX8_word_8 rfl rfl ?_
    refine g_bipush (q := 11) (v := (nI 16)) dX8_word_9 rfl (by decide) ?_
    refine g_icmp_lt (q := 14) (t := 24) dX8_word_11 rfl (by decide) (fun c_11 => ?_) (fun c_11 => ?_)
    · exact (m_badC (by decide) hb c_5 c_11).elim
    · exact g_throw (is := 158) (tx := "no such address") (i := 15) hl rfl (by decide +kernel) (by decide) tx_IOE xk_IOE (by decide +kernel) (bz_le rfl) dX8_word_14 dX8_word_17 dX8_word_18 dX8_word_20 dX8_word_23
set_option maxRecDepth 20000 in
set_option maxHeartbeats 1000000 in
theorem c8_word0 {l : Launch} {E : bz_E} {L : List Nat} {g : Nat → va_E} {o p q : Nat} {n er v0 v1 : Int32} {rp : PLR} {rS : SR} {σ : Si} {D : Pl} {s k : Nat} (hs : s < 2) (hk : k < 16) (hr : s_srep rS σ) (hD : d_rep rp D) (hW : bz_W L g [(o, w_obj o p q n er v0 v1), (p, b_PL E p rp), (o + 27, b_Sit E (o + 27) rS)]) : bz_K l E mX8_word 2 [.ref o, .int (nI s), .int (nI k)] L g (fun r g1 => r = some (.int ((s_sd s σ).2.2.2.1 k)) ∧ g1 = g) := by
  refine bz_K.of (by decide) (bz_le rfl) (fun sz => ?_)
  have hB := bz_B.rf hW
  show bz_G _ _ _ _ _ _ _ _ _ _ _ _ 0 [(0, .ref o), (1, .int (nI s)), (2, .int (nI k))] []
  rcases (show s = 0 ∨ s = 1 by omega) with rfl | rfl
  · refine g_iload_n (q := 1) dX8_word_0 rfl rfl ?_
    refine g_callS (q := 4) dX8_word_1 rfl ks_X8_116 rfl (c8_checkSide0 hs) (by decide) rfl (bz_le rfl) (by decide) (by decide) (fun r g1 hQ => ?_)
    obtain ⟨rfl, hg⟩ := hQ
    have hg := hg.symm
    subst hg
    refine g_iload_n (q := 5) dX8_word_4 rfl rfl ?_
    refine g_ifN_lt (q := 8) (t := 14) dX8_word_5 rfl (by decide) (by omega) ?_
    refine g_iload_n (q := 9) dX8_word_8 rfl rfl ?_
    refine g_bipush (q := 11) (v := (nI 16)) dX8_word_9 rfl (by decide) ?_
    refine g_icmpN_lt (q := 14) (t := 24) dX8_word_11 rfl (by decide) (by omega) (by omega) (fun _ => ?_) (fun c => absurd c (by omega))
    refine g_aload_n (q := 25) dX8_word_24 rfl rfl ?_
    refine gb_getf (q := 28) (j := 0) (i := 0) dX8_word_25 rfl fl_X8_33 hB rfl rfl rfl rfl ?_
    refine g_iload_n (q := 29) dX8_word_28 rfl rfl ?_
    refine gb_callV (q := 32) (j := 2) (i := 0) dX8_word_29 rfl kv_X8_119 (c_portOf0 (hB.1.at (j := 2) rfl)) rfl (by decide) hB rfl rfl rfl rfl (bz_le rfl) (by decide) (by decide) (fun r g1 hQ => ?_)
    obtain ⟨rfl, hg⟩ := hQ
    have hg := hg.symm
    subst hg
    refine g_iload_n (q := 33) dX8_word_32 rfl rfl ?_
    refine gb_callV (q := 36) (j := 2) (i := 1) dX8_word_33 rfl kv_X8_161 (c_memoryAt (i := k) hk ((hB.1.at (j := 2) rfl).sub 1 rfl)) rfl (by decide) hB rfl rfl rfl rfl (bz_le rfl) (by decide) (by decide) (fun r g1 hQ => ?_)
    obtain ⟨rfl, hg⟩ := hQ
    have hg := hg.symm
    subst hg
    refine g_eqi (v := σ.2.1.2.2.2.1 k) (congrFun hr.2.1.2.2.2.2.2.2.2.1 k) ?_
    exact g_iret dX8_word_36 rfl (⟨rfl, rfl⟩)
  · refine g_iload_n (q := 1) dX8_word_0 rfl rfl ?_
    refine g_callS (q := 4) dX8_word_1 rfl ks_X8_116 rfl (c8_checkSide0 hs) (by decide) rfl (bz_le rfl) (by decide) (by decide) (fun r g1 hQ => ?_)
    obtain ⟨rfl, hg⟩ := hQ
    have hg := hg.symm
    subst hg
    refine g_iload_n (q := 5) dX8_word_4 rfl rfl ?_
    refine g_ifN_lt (q := 8) (t := 14) dX8_word_5 rfl (by decide) (by omega) ?_
    refine g_iload_n (q := 9) dX8_word_8 rfl rfl ?_
    refine g_bipush (q := 11) (v := (nI 16)) dX8_word_9 rfl (by decide) ?_
    refine g_icmpN_lt (q := 14) (t := 24) dX8_word_11 rfl (by decide) (by omega) (by omega) (fun _ => ?_) (fun c => absurd c (by omega))
    refine g_aload_n (q := 25) dX8_word_24 rfl rfl ?_
    refine gb_getf (q := 28) (j := 0) (i := 0) dX8_word_25 rfl fl_X8_33 hB rfl rfl rfl rfl ?_
    refine g_iload_n (q := 29) dX8_word_28 rfl rfl ?_
    refine gb_callV (q := 32) (j := 2) (i := 0) dX8_word_29 rfl kv_X8_119 (c_portOf1 (hB.1.at (j := 2) rfl)) rfl (by decide) hB rfl rfl rfl rfl (bz_le rfl) (by decide) (by decide) (fun r g1 hQ => ?_)
    obtain ⟨rfl, hg⟩ := hQ
    have hg := hg.symm
    subst hg
    refine g_iload_n (q := 33) dX8_word_32 rfl rfl ?_
    refine gb_callV (q := 36) (j := 2) (i := 14) dX8_word_33 rfl kv_X8_161 (c_memoryAt (i := k) hk ((hB.1.at (j := 2) rfl).sub 14 rfl)) rfl (by decide) hB rfl rfl rfl rfl (bz_le rfl) (by decide) (by decide) (fun r g1 hQ => ?_)
    obtain ⟨rfl, hg⟩ := hQ
    have hg := hg.symm
    subst hg
    refine g_eqi (v := σ.2.2.2.2.2.1 k) (congrFun hr.2.2.2.2.2.2.2.2.2.1 k) ?_
    exact g_iret dX8_word_36 rfl (⟨rfl, rfl⟩)
set_option maxRecDepth 20000 in
set_option maxHeartbeats 1000000 in
theorem c8_holds2 {l : Launch} {E : bz_E} {L : List Nat} {g : Nat → va_E} {o : Nat} {v w : Int32} (hl : l.stackTraces = false) (hb : m_bad v 4 = true) : bz_KX l E mX8_holds 7 [.ref o, .int v, .int w] L g x_IOE := by
  refine bz_KX.of (by decide) (bz_le rfl) (fun sz => ?_)
  show bz_G _ _ _ _ _ _ _ _ _ _ _ _ 0 [(0, .ref o), (1, .int v), (2, .int w)] []
  refine g_iload_n (q := 1) dX8_holds_0 rfl rfl ?_
  exact g_callSX dX8_holds_1 (by decide +kernel) ks_X8_101 rfl (c8_checkKind1 hl hb) (by decide) rfl (bz_le rfl)
set_option maxRecDepth 20000 in
set_option maxHeartbeats 1000000 in
theorem c8_holds1 {l : Launch} {E : bz_E} {L : List Nat} {g : Nat → va_E} {o a : Nat} {w : Int32} (hl : l.stackTraces = false) (ha : a < 4) (hb : m_bad w 4 = true) : bz_KX l E mX8_holds 7 [.ref o, .int (nI a), .int w] L g x_IOE := by
  refine bz_KX.of (by decide) (bz_le rfl) (fun sz => ?_)
  show bz_G _ _ _ _ _ _ _ _ _ _ _ _ 0 [(0, .ref o), (1, .int (nI a)), (2, .int w)] []
  refine g_iload_n (q := 1) dX8_holds_0 rfl rfl ?_
  refine g_callS (q := 4) dX8_holds_1 rfl ks_X8_101 rfl (c8_checkKind0 ha) (by decide) rfl (bz_le rfl) (by decide) (by decide) (fun r g1 hQ => ?_)
  obtain ⟨rfl, hg⟩ := hQ
  have hg := hg.symm
  subst hg
  refine g_iload_n (q := 5) dX8_holds_4 rfl rfl ?_
  exact g_callSX dX8_holds_5 (by decide +kernel) ks_X8_101 rfl (c8_checkKind1 hl hb) (by decide) rfl (bz_le rfl)
set_option maxRecDepth 20000 in
set_option maxHeartbeats 1000000 in
theorem c8_mayPass2 {l : Launch} {E : bz_E} {L : List Nat} {g : Nat → va_E} {o : Nat} {v w : Int32} {rx : Int32} (hl : l.stackTraces = false) (hb : m_bad v 4 = true) : bz_KX l E mX8_mayPass 7 [.ref o, .int v, .int w, .int rx] L g x_IOE := by
  refine bz_KX.of (by decide) (bz_le rfl) (fun sz => ?_)
  show bz_G _ _ _ _ _ _ _ _ _ _ _ _ 0 [(0, .ref o), (1, .int v), (2, .int w), (3, .int rx)] []
  refine g_iload_n (q := 1) dX8_mayPass_0 rfl rfl ?_
  exact g_callSX dX8_mayPass_1 (by decide +kernel) ks_X8_101 rfl (c8_checkKind1 hl hb) (by decide) rfl (bz_le rfl)
set_option maxRecDepth 20000 in
set_option maxHeartbeats 1000000 in
theorem c8_mayPass1 {l : Launch} {E : bz_E} {L : List Nat} {g : Nat → va_E} {o a : Nat} {w : Int32} {rx : Int32} (hl : l.stackTraces = false) (ha : a < 4) (hb : m_bad w 4 = true) : bz_KX l E mX8_mayPass 7 [.ref o, .int (nI a), .int w, .int rx] L g x_IOE := by
  refine bz_KX.of (by decide) (bz_le rfl) (fun sz => ?_)
  show bz_G _ _ _ _ _ _ _ _ _ _ _ _ 0 [(0, .ref o), (1, .int (nI a)), (2, .int w), (3, .int rx)] []
  refine g_iload_n (q := 1) dX8_mayPass_0 rfl rfl ?_
  refine g_callS (q := 4) dX8_mayPass_1 rfl ks_X8_101 rfl (c8_checkKind0 ha) (by decide) rfl (bz_le rfl) (by decide) (by decide) (fun r g1 hQ => ?_)
  obtain ⟨rfl, hg⟩ := hQ
  have hg := hg.symm
  subst hg
  refine g_iload_n (q := 5) dX8_mayPass_4 rfl rfl ?_
  exact g_callSX dX8_mayPass_5 (by decide +kernel) ks_X8_101 rfl (c8_checkKind1 hl hb) (by decide) rfl (bz_le rfl)
set_option maxRecDepth 20000 in
set_option maxHeartbeats 1000000 in
theorem c8_holds0 {l : Launch} {E : bz_E} {L : List Nat} {g : Nat → va_E} {o a b : Nat} (ha : a < 4) (hb : b < 4) : bz_K l E mX8_holds 1 [.ref o, .int (nI a), .int (nI b)] L g (fun r g1 => r = some (.int (tB (decide (a = b)))) ∧ g1 = g) := by
  refine bz_K.of (by decide) (bz_le rfl) (fun sz => ?_)
  show bz_G _ _ _ _ _ _ _ _ _ _ _ _ 0 [(0, .ref o), (1, .int (nI a)), (2, .int (nI b))] []
  refine g_iload_n (q := 1) dX8_holds_0 rfl rfl ?_
  refine g_callS (q := 4) dX8_holds_1 rfl ks_X8_101 rfl (c8_checkKind0 ha) (by decide) rfl (bz_le rfl) (by decide) (by decide) (fun r g1 hQ => ?_)
  obtain ⟨rfl, hg⟩ := hQ
  have hg := hg.symm
  subst hg
  refine g_iload_n (q := 5) dX8_holds_4 rfl rfl ?_
  refine g_callS (q := 8) dX8_holds_5 rfl ks_X8_101 rfl (c8_checkKind0 hb) (by decide) rfl (bz_le rfl) (by decide) (by decide) (fun r g1 hQ => ?_)
  obtain ⟨rfl, hg⟩ := hQ
  have hg := hg.symm
  subst hg
  refine g_iload_n (q := 9) dX8_holds_8 rfl rfl ?_
  refine g_iload_n (q := 10) dX8_holds_9 rfl rfl ?_
  refine g_icmpN_ne (q := 13) (t := 17) dX8_holds_10 rfl (by decide) (by omega) (by omega) (fun c_10 => ?_) (fun c_10 => ?_)
  · refine g_iconst (q := 18) (v := (nI 0)) dX8_holds_17 rfl (by decide) ?_
    exact g_zret dX8_holds_18 rfl rfl ⟨congrArg (fun c => some (Value.int c)) (by first | (rw [decide_eq_true (by omega : a = b)]; rfl) | (rw [decide_eq_false (by omega : ¬ a = b)]; rfl)), rfl⟩
  · refine g_iconst (q := 14) (v := (nI 1)) dX8_holds_13 rfl (by decide) ?_
    refine g_goto (q := 18) dX8_holds_14 (by decide) ?_
    exact g_zret dX8_holds_18 rfl rfl ⟨congrArg (fun c => some (Value.int c)) (by first | (rw [decide_eq_true (by omega : a = b)]; rfl) | (rw [decide_eq_false (by omega : ¬ a = b)]; rfl)), rfl⟩
set_option maxRecDepth 20000 in
set_option maxHeartbeats 1000000 in
theorem c8_mayPass0 {l : Launch} {E : bz_E} {L : List Nat} {g : Nat → va_E} {o p q : Nat} {n er v0 v1 : Int32} {rp : PLR} {rS : SR} {σ : Si} {D : Pl} {a b : Nat} {rx : Bool} (hd : d_ok D) (ha : a < 4) (hb : b < 4) (hr : s_srep rS σ) (hD : d_rep rp D) (hW : bz_W L g [(o, w_obj o p q n er v0 v1), (p, b_PL E p rp), (o + 27, b_Sit E (o + 27) rS)]) : bz_K l E mX8_mayPass 2 [.ref o, .int (nI a), .int (nI b), .int (tB rx)] L g (fun r g1 => r = some (.int (tB (m_ps D.2.2.1 a b rx))) ∧ g1 = g) := by
  refine bz_K.of (by decide) (bz_le rfl) (fun sz => ?_)
  have hB := bz_B.rf hW
  show bz_G _ _ _ _ _ _ _ _ _ _ _ _ 0 [(0, .ref o), (1, .int (nI a)), (2, .int (nI b)), (3, .int (tB rx))] []
  refine g_iload_n (q := 1) dX8_mayPass_0 rfl rfl ?_
  refine g_callS (q := 4) dX8_mayPass_1 rfl ks_X8_101 rfl (c8_checkKind0 ha) (by decide) rfl (bz_le rfl) (by decide) (by decide) (fun r g1 hQ => ?_)
  obtain ⟨rfl, hg⟩ := hQ
  have hg := hg.symm
  subst hg
  refine g_iload_n (q := 5) dX8_mayPass_4 rfl rfl ?_
  refine g_callS (q := 8) dX8_mayPass_5 rfl ks_X8_101 rfl (c8_checkKind0 hb) (by decide) rfl (bz_le rfl) (by decide) (by decide) (fun r g1 hQ => ?_)
  obtain ⟨rfl, hg⟩ := hQ
  have hg := hg.symm
  subst hg
  refine g_aload_n (q := 9) dX8_mayPass_8 rfl rfl ?_
  refine gb_getf (q := 12) (j := 0) (i := 0) dX8_mayPass_9 rfl fl_X8_23 hB rfl rfl rfl rfl ?_
  refine g_iload_n (q := 13) dX8_mayPass_12 rfl rfl ?_
  refine g_iload_n (q := 14) dX8_mayPass_13 rfl rfl ?_
  refine gb_callV (q := 17) (j := 1) (i := 0) dX8_mayPass_14 rfl kv_X8_104 (c_blockingKinds (k := a) (rx := rx) (tb := D.2.2.1) ha (fun i hi => ⟨hD.2.2.1 i hi, hd.2.1 i hi⟩) (hB.1.at (j := 1) rfl)) rfl (by decide) hB rfl rfl rfl rfl (bz_le rfl) (by decide) (by decide) (fun r g1 hQ => ?_)
  obtain ⟨rfl, hg⟩ := hQ
  have hg := hg.symm
  subst hg
  refine g_iload_n (q := 18) dX8_mayPass_17 rfl rfl ?_
  refine g_callS (q := 21) dX8_mayPass_18 rfl ks_X8_108 rfl (c_hasBit) (by decide) rfl (bz_le rfl) (by decide) (by decide) (fun r g1 hQ => ?_)
  obtain ⟨rfl, hg⟩ := hQ
  have hg := hg.symm
  subst hg
  refine g_eqi (v := tB (!m_ps D.2.2.1 a b rx)) (by rw [w_bit _ (s_bk_lt _ _ _ 4) b hb, w_ps hb (hd.2.1 _ (by omega))]) ?_
  refine g_if_ne (q := 24) (t := 28) dX8_mayPass_21 rfl (by decide) (fun c_21 => ?_) (fun c_21 => ?_)
  · refine g_iconst (q := 29) (v := (nI 0)) dX8_mayPass_28 rfl (by decide) ?_
    exact g_zret dX8_mayPass_29 rfl rfl ⟨congrArg (fun c => some (Value.int c)) (by cases h9 : m_ps D.2.2.1 a b rx <;> rw [h9] at c_21 <;> first | rfl | exact absurd rfl c_21 | exact absurd c_21 (by decide)), rfl⟩
  · refine g_iconst (q := 25) (v := (nI 1)) dX8_mayPass_24 rfl (by decide) ?_
    refine g_goto (q := 29) dX8_mayPass_25 (by decide) ?_
    exact g_zret dX8_mayPass_29 rfl rfl ⟨congrArg (fun c => some (Value.int c)) (by cases h9 : m_ps D.2.2.1 a b rx <;> rw [h9] at c_21 <;> first | rfl | exact absurd rfl c_21 | exact absurd c_21 (by decide)), rfl⟩
theorem w_blk {D : Pl} {x y : Tx} (hd : d_ok D) (hx : tK x < 4) (hy : tK y < 4) : (s_bk D.2.2.1 (tK x) (tR x) 4).testBit (tK y) = s_blk D.2.2.1 x y := by
  have h := hd.2.1 (4 * tK x + tK y) (by omega)
  rw [w_ps hy h, m_ps_blk h, Bool.not_not]
theorem w_rx (b : Bool) : (if tB b = 1 then (1 : Int32) else 0) = tB b := by cases b <;> rfl

set_option maxRecDepth 20000 in
set_option maxHeartbeats 1000000 in
theorem c8_blockers2 {l : Launch} {E : bz_E} {L : List Nat} {g : Nat → va_E} {o p q : Nat} {n er v0 v1 : Int32} {rp : PLR} {rS : SR} {σ : Si} {D : Pl} {v w : Int32} (hl : l.stackTraces = false) (hb : m_bad v 2 = true) (hr : s_srep rS σ) (hD : d_rep rp D) (hW : bz_W L g [(o, w_obj o p q n er v0 v1), (p, b_PL E p rp), (o + 27, b_Sit E (o + 27) rS)]) : bz_KX l E mX8_blockers 8 [.ref o, .int v, .int w] L g x_IOE := by
  refine bz_KX.of (by decide) (bz_le rfl) (fun sz => ?_)
  show bz_G _ _ _ _ _ _ _ _ _ _ _ _ 0 [(0, .ref o), (1, .int v), (2, .int w)] []
  refine g_aload_n (q := 1) dX8_blockers_0 rfl rfl ?_
  refine g_iload_n (q := 2) dX8_blockers_1 rfl rfl ?_
  refine g_iload_n (q := 3) dX8_blockers_2 rfl rfl ?_
  exact g_callVX dX8_blockers_3 (by decide +kernel) kv_X8_134 (c8_pos2 hl hb) rfl (by decide) (hW.at (j := 0) rfl 0 _ rfl).1 (hW.at (j := 0) rfl 0 _ rfl).2 rfl (bz_le rfl)
set_option maxRecDepth 20000 in
set_option maxHeartbeats 1000000 in
theorem c8_blockers1 {l : Launch} {E : bz_E} {L : List Nat} {g : Nat → va_E} {o p q : Nat} {n er v0 v1 : Int32} {rp : PLR} {rS : SR} {σ : Si} {D : Pl} {s : Nat} {w : Int32} (hl : l.stackTraces = false) (hs : s < 2) (hb : m_bad w (s_sd s σ).1.length = true) (hr : s_srep rS σ) (hD : d_rep rp D) (hW : bz_W L g [(o, w_obj o p q n er v0 v1), (p, b_PL E p rp), (o + 27, b_Sit E (o + 27) rS)]) : bz_KX l E mX8_blockers 8 [.ref o, .int (nI s), .int w] L g x_IOE := by
  refine bz_KX.of (by decide) (bz_le rfl) (fun sz => ?_)
  show bz_G _ _ _ _ _ _ _ _ _ _ _ _ 0 [(0, .ref o), (1, .int (nI s)), (2, .int w)] []
  refine g_aload_n (q := 1) dX8_blockers_0 rfl rfl ?_
  refine g_iload_n (q := 2) dX8_blockers_1 rfl rfl ?_
  refine g_iload_n (q := 3) dX8_blockers_2 rfl rfl ?_
  exact g_callVX dX8_blockers_3 (by decide +kernel) kv_X8_134 (c8_pos1 hl hs hb hr hD hW) rfl (by decide) (hW.at (j := 0) rfl 0 _ rfl).1 (hW.at (j := 0) rfl 0 _ rfl).2 rfl (bz_le rfl)
set_option maxRecDepth 20000 in
set_option maxHeartbeats 1000000 in
theorem c8_blockers0 {l : Launch} {E : bz_E} {L : List Nat} {g : Nat → va_E} {o p q : Nat} {n er v0 v1 : Int32} {rp : PLR} {rS : SR} {σ : Si} {D : Pl} {s k : Nat} {x : Tx} (hs : s < 2) (hd : d_ok D) (hx : (s_sd s σ).1[k]? = some x) (hr : s_srep rS σ) (hD : d_rep rp D) (hW : bz_W L g [(o, w_obj o p q n er v0 v1), (p, b_PL E p rp), (o + 27, b_Sit E (o + 27) rS)]) : bz_K l E mX8_blockers 2 [.ref o, .int (nI s), .int (nI k)] L g (fun r g1 => r = some (.int (s_bset D.2.2.1 x (s_sd s σ).1 k)) ∧ g1 = g) := by
  refine bz_K.of (by decide) (bz_le rfl) (fun sz => ?_)
  have hB := bz_B.rf hW
  show bz_G _ _ _ _ _ _ _ _ _ _ _ _ 0 [(0, .ref o), (1, .int (nI s)), (2, .int (nI k))] []
  rcases (show s = 0 ∨ s = 1 by omega) with rfl | rfl
  · have hx : σ.2.1.1[k]? = some x := hx
    have hk32 : k < 32 := Nat.lt_of_lt_of_le (List.getElem?_eq_some_iff.mp hx).1 hr.2.1.2.2.1.len
    have hx4 : tK x < 4 := (hr.2.1.2.2.1.1 x (List.mem_of_getElem? hx)).1
    have K : ∀ (m i : Nat), i + m = k → bz_G l E mX8_blockers (bz_R 2 0 0) L sz (bz_Fm E L sz (fun r g1 => r = some (.int (s_bset D.2.2.1 x (s_sd 0 σ).1 k)) ∧ g1 = g)) sz 0 0 L g 44 [(6, .int (nI i)), (5, .int (s_bset D.2.2.1 x σ.2.1.1 i)), (4, .int (nI (s_bk D.2.2.1 (tK x) (tR x) 4))), (3, .ref (o + 27 + 1 + 1)), (0, .ref o), (1, .int (nI 0)), (2, .int (nI k))] [] := by
      intro m
      induction m with
      | zero =>
        intro i hi
        have hik : i = k := by omega
        subst hik
        refine g_iload (q := 46) dX8_blockers_44 rfl rfl ?_
        refine g_iload_n (q := 47) dX8_blockers_46 rfl rfl ?_
        refine g_icmpN_ge (q := 50) (t := 80) dX8_blockers_47 rfl (by decide) (by omega) (by omega) (fun _ => ?_) (fun c => absurd c (by omega))
        refine g_iload (q := 82) dX8_blockers_80 rfl rfl ?_
        exact g_iret dX8_blockers_82 rfl (⟨rfl, rfl⟩)
      | succ m ih =>
        intro i hi
        have h2 : k < σ.2.1.1.length := (List.getElem?_eq_some_iff.mp hx).1
        obtain ⟨y, hy⟩ : ∃ y, σ.2.1.1[i]? = some y := ⟨_, List.getElem?_eq_getElem (show i < σ.2.1.1.length by omega)⟩
        have hy4 : tK y < 4 := (hr.2.1.2.2.1.1 y (List.mem_of_getElem? hy)).1
        refine g_iload (q := 46) dX8_blockers_44 rfl rfl ?_
        refine g_iload_n (q := 47) dX8_blockers_46 rfl rfl ?_
        refine g_icmpN_ge (q := 50) (t := 80) dX8_blockers_47 rfl (by decide) (by omega) (by omega) (fun c => absurd c (by omega)) (fun _ => ?_)
        refine g_iload (q := 52) dX8_blockers_50 rfl rfl ?_
        refine g_aload_n (q := 53) dX8_blockers_52 rfl rfl ?_
        refine g_iload (q := 55) dX8_blockers_53 rfl rfl ?_
        refine g_iconst (q := 56) (v := (nI 0)) dX8_blockers_55 rfl (by decide) ?_
        refine gb_callV (q := 59) (j := 2) (i := 2) dX8_blockers_56 rfl kv_X8_138 (c_get (p := i) (x := 0) (by have h1 := hr.2.1.2.2.1.len; have h2 : k < σ.2.1.1.length := (List.getElem?_eq_some_iff.mp hx).1; omega) ((hB.1.at (j := 2) rfl).sub 2 rfl)) rfl (by decide) hB rfl rfl rfl rfl (bz_le rfl) (by decide) (by decide) (fun r g1 hQ => ?_)
        obtain ⟨rfl, hg⟩ := hQ
        have hg := hg.symm
        subst hg
        refine g_eqi (v := nI (tK y)) ((hr.2.1.1.1 i y hy).1) ?_
        refine g_callS (q := 62) dX8_blockers_59 rfl ks_X8_108 rfl (c_hasBit) (by decide) rfl (bz_le rfl) (by decide) (by decide) (fun r g1 hQ => ?_)
        obtain ⟨rfl, hg⟩ := hQ
        have hg := hg.symm
        subst hg
        refine g_eqi (v := tB (s_blk D.2.2.1 x y)) (by rw [w_bit _ (s_bk_lt _ _ _ 4) _ hy4, w_blk hd hx4 hy4]) ?_
        cases hb9 : s_blk D.2.2.1 x y with
        | true =>
          refine g_if_eq (q := 65) (t := 74) dX8_blockers_62 rfl (by decide) (fun c => absurd c ((by decide : ¬ tB true = 0))) (fun _ => ?_)
          refine g_iload (q := 67) dX8_blockers_65 rfl rfl ?_
          refine g_iconst (q := 68) (v := (nI 1)) dX8_blockers_67 rfl (by decide) ?_
          refine g_iload (q := 70) dX8_blockers_68 rfl rfl ?_
          refine g_ishl (q := 71) dX8_blockers_70 rfl ?_
          refine g_ior (q := 72) dX8_blockers_71 rfl ?_
          refine g_istore (q := 74) dX8_blockers_72 rfl (by decide) rfl ?_
          refine g_iincN (q := 77) (c := 1) dX8_blockers_74 rfl (by decide) rfl rfl (by decide) ?_
          refine g_goto (q := 44) dX8_blockers_77 (by decide) ?_
          have h9 : s_bset D.2.2.1 x σ.2.1.1 (i + 1) = s_bset D.2.2.1 x σ.2.1.1 i ||| nI 1 <<< (nI i &&& 31) := by
            show s_bset D.2.2.1 x σ.2.1.1 i ||| (match σ.2.1.1[i]? with | some y => if s_blk D.2.2.1 x y then nI 1 <<< (nI i &&& 31) else nI 0 | none => nI 0) = _
            rw [hy]
            show s_bset D.2.2.1 x σ.2.1.1 i ||| (if s_blk D.2.2.1 x y then nI 1 <<< (nI i &&& 31) else nI 0) = _
            rw [hb9]
            rfl
          refine g_lvs (lv1 := [(6, .int (nI (i + 1))), (5, .int (s_bset D.2.2.1 x σ.2.1.1 (i + 1))), (4, .int (nI (s_bk D.2.2.1 (tK x) (tR x) 4))), (3, .ref (o + 27 + 1 + 1)), (0, .ref o), (1, .int (nI 0)), (2, .int (nI k))]) ⟨rfl, congrArg (fun z => some (Value.int z)) h9.symm, rfl, rfl, rfl, rfl, rfl, trivial⟩ ?_
          exact ih (i + 1) (by omega)
        | false =>
          refine g_if_eq (q := 65) (t := 74) dX8_blockers_62 rfl (by decide) (fun _ => ?_) (fun c => absurd ((rfl : tB false = 0)) c)
          refine g_iincN (q := 77) (c := 1) dX8_blockers_74 rfl (by decide) rfl rfl (by decide) ?_
          refine g_goto (q := 44) dX8_blockers_77 (by decide) ?_
          have h9 : s_bset D.2.2.1 x σ.2.1.1 (i + 1) = s_bset D.2.2.1 x σ.2.1.1 i := by
            show s_bset D.2.2.1 x σ.2.1.1 i ||| (match σ.2.1.1[i]? with | some y => if s_blk D.2.2.1 x y then nI 1 <<< (nI i &&& 31) else nI 0 | none => nI 0) = _
            rw [hy]
            show s_bset D.2.2.1 x σ.2.1.1 i ||| (if s_blk D.2.2.1 x y then nI 1 <<< (nI i &&& 31) else nI 0) = _
            rw [hb9]
            exact Int32.or_zero
          refine g_lvs (lv1 := [(6, .int (nI (i + 1))), (5, .int (s_bset D.2.2.1 x σ.2.1.1 (i + 1))), (4, .int (nI (s_bk D.2.2.1 (tK x) (tR x) 4))), (3, .ref (o + 27 + 1 + 1)), (0, .ref o), (1, .int (nI 0)), (2, .int (nI k))]) ⟨rfl, congrArg (fun z => some (Value.int z)) h9.symm, rfl, rfl, rfl, rfl, rfl, trivial⟩ ?_
          exact ih (i + 1) (by omega)
    refine g_aload_n (q := 1) dX8_blockers_0 rfl rfl ?_
    refine g_iload_n (q := 2) dX8_blockers_1 rfl rfl ?_
    refine g_iload_n (q := 3) dX8_blockers_2 rfl rfl ?_
    refine gb_callV (q := 6) (j := 0) (i := 0) dX8_blockers_3 rfl kv_X8_134 (c8_pos0 hs ((List.getElem?_eq_some_iff.mp hx).1) hr hD hB.1) rfl (by decide) hB rfl rfl rfl rfl (bz_le rfl) (by decide) (by decide) (fun r g1 hQ => ?_)
    obtain ⟨rfl, hg⟩ := hQ
    have hg := hg.symm
    subst hg
    refine g_aload_n (q := 7) dX8_blockers_6 rfl rfl ?_
    refine gb_getf (q := 10) (j := 0) (i := 0) dX8_blockers_7 rfl fl_X8_33 hB rfl rfl rfl rfl ?_
    refine g_iload_n (q := 11) dX8_blockers_10 rfl rfl ?_
    refine gb_callV (q := 14) (j := 2) (i := 0) dX8_blockers_11 rfl kv_X8_119 (c_portOf0 (hB.1.at (j := 2) rfl)) rfl (by decide) hB rfl rfl rfl rfl (bz_le rfl) (by decide) (by decide) (fun r g1 hQ => ?_)
    obtain ⟨rfl, hg⟩ := hQ
    have hg := hg.symm
    subst hg
    refine gb_getf (q := 17) (j := 2) (i := 1) dX8_blockers_14 rfl fl_X8_123 hB rfl rfl rfl rfl ?_
    refine g_astore_n (q := 18) rfl dX8_blockers_17 rfl (by decide) rfl ?_
    refine g_aload_n (q := 19) dX8_blockers_18 rfl rfl ?_
    refine gb_getf (q := 22) (j := 0) (i := 0) dX8_blockers_19 rfl fl_X8_23 hB rfl rfl rfl rfl ?_
    refine g_aload_n (q := 23) dX8_blockers_22 rfl rfl ?_
    refine g_iload_n (q := 24) dX8_blockers_23 rfl rfl ?_
    refine g_iconst (q := 25) (v := (nI 0)) dX8_blockers_24 rfl (by decide) ?_
    refine gb_callV (q := 28) (j := 2) (i := 2) dX8_blockers_25 rfl kv_X8_138 (c_get (p := k) (x := 0) (by have h1 := hr.2.1.2.2.1.len; have h2 : k < σ.2.1.1.length := (List.getElem?_eq_some_iff.mp hx).1; omega) ((hB.1.at (j := 2) rfl).sub 2 rfl)) rfl (by decide) hB rfl rfl rfl rfl (bz_le rfl) (by decide) (by decide) (fun r g1 hQ => ?_)
    obtain ⟨rfl, hg⟩ := hQ
    have hg := hg.symm
    subst hg
    refine g_eqi (v := nI (tK x)) ((hr.2.1.1.1 k x hx).1) ?_
    refine g_aload_n (q := 29) dX8_blockers_28 rfl rfl ?_
    refine g_iload_n (q := 30) dX8_blockers_29 rfl rfl ?_
    refine gb_callV (q := 33) (j := 2) (i := 2) dX8_blockers_30 rfl kv_X8_141 (c_isRelaxed (p := k) (by have h1 := hr.2.1.2.2.1.len; have h2 : k < σ.2.1.1.length := (List.getElem?_eq_some_iff.mp hx).1; omega) ((hB.1.at (j := 2) rfl).sub 2 rfl)) rfl (by decide) hB rfl rfl rfl rfl (bz_le rfl) (by decide) (by decide) (fun r g1 hQ => ?_)
    obtain ⟨rfl, hg⟩ := hQ
    have hg := hg.symm
    subst hg
    refine g_eqi (v := tB (tR x)) (by rw [(hr.2.1.1.1 k x hx).2.2.1]; exact w_rx _) ?_
    refine gb_callV (q := 36) (j := 1) (i := 0) dX8_blockers_33 rfl kv_X8_104 (c_blockingKinds (k := tK x) (rx := tR x) (tb := D.2.2.1) hx4 (fun i hi => ⟨hD.2.2.1 i hi, hd.2.1 i hi⟩) (hB.1.at (j := 1) rfl)) rfl (by decide) hB rfl rfl rfl rfl (bz_le rfl) (by decide) (by decide) (fun r g1 hQ => ?_)
    obtain ⟨rfl, hg⟩ := hQ
    have hg := hg.symm
    subst hg
    refine g_istore (q := 38) dX8_blockers_36 rfl (by decide) rfl ?_
    refine g_iconst (q := 39) (v := (nI 0)) dX8_blockers_38 rfl (by decide) ?_
    refine g_istore (q := 41) dX8_blockers_39 rfl (by decide) rfl ?_
    refine g_iconst (q := 42) (v := (nI 0)) dX8_blockers_41 rfl (by decide) ?_
    refine g_istore (q := 44) dX8_blockers_42 rfl (by decide) rfl ?_
    refine g_lvs (lv1 := [(6, .int (nI 0)), (5, .int (s_bset D.2.2.1 x σ.2.1.1 0)), (4, .int (nI (s_bk D.2.2.1 (tK x) (tR x) 4))), (3, .ref (o + 27 + 1 + 1)), (0, .ref o), (1, .int (nI 0)), (2, .int (nI k))]) ⟨rfl, rfl, rfl, rfl, rfl, rfl, rfl, trivial⟩ ?_
    exact K k 0 (by omega)
  · have hx : σ.2.2.1[k]? = some x := hx
    have hk32 : k < 32 := Nat.lt_of_lt_of_le (List.getElem?_eq_some_iff.mp hx).1 hr.2.2.2.2.1.len
    have hx4 : tK x < 4 := (hr.2.2.2.2.1.1 x (List.mem_of_getElem? hx)).1
    have K : ∀ (m i : Nat), i + m = k → bz_G l E mX8_blockers (bz_R 2 0 0) L sz (bz_Fm E L sz (fun r g1 => r = some (.int (s_bset D.2.2.1 x (s_sd 1 σ).1 k)) ∧ g1 = g)) sz 0 0 L g 44 [(6, .int (nI i)), (5, .int (s_bset D.2.2.1 x σ.2.2.1 i)), (4, .int (nI (s_bk D.2.2.1 (tK x) (tR x) 4))), (3, .ref (o + 27 + 14 + 1)), (0, .ref o), (1, .int (nI 1)), (2, .int (nI k))] [] := by
      intro m
      induction m with
      | zero =>
        intro i hi
        have hik : i = k := by omega
        subst hik
        refine g_iload (q := 46) dX8_blockers_44 rfl rfl ?_
        refine g_iload_n (q := 47) dX8_blockers_46 rfl rfl ?_
        refine g_icmpN_ge (q := 50) (t := 80) dX8_blockers_47 rfl (by decide) (by omega) (by omega) (fun _ => ?_) (fun c => absurd c (by omega))
        refine g_iload (q := 82) dX8_blockers_80 rfl rfl ?_
        exact g_iret dX8_blockers_82 rfl (⟨rfl, rfl⟩)
      | succ m ih =>
        intro i hi
        have h2 : k < σ.2.2.1.length := (List.getElem?_eq_some_iff.mp hx).1
        obtain ⟨y, hy⟩ : ∃ y, σ.2.2.1[i]? = some y := ⟨_, List.getElem?_eq_getElem (show i < σ.2.2.1.length by omega)⟩
        have hy4 : tK y < 4 := (hr.2.2.2.2.1.1 y (List.mem_of_getElem? hy)).1
        refine g_iload (q := 46) dX8_blockers_44 rfl rfl ?_
        refine g_iload_n (q := 47) dX8_blockers_46 rfl rfl ?_
        refine g_icmpN_ge (q := 50) (t := 80) dX8_blockers_47 rfl (by decide) (by omega) (by omega) (fun c => absurd c (by omega)) (fun _ => ?_)
        refine g_iload (q := 52) dX8_blockers_50 rfl rfl ?_
        refine g_aload_n (q := 53) dX8_blockers_52 rfl rfl ?_
        refine g_iload (q := 55) dX8_blockers_53 rfl rfl ?_
        refine g_iconst (q := 56) (v := (nI 0)) dX8_blockers_55 rfl (by decide) ?_
        refine gb_callV (q := 59) (j := 2) (i := 15) dX8_blockers_56 rfl kv_X8_138 (c_get (p := i) (x := 0) (by have h1 := hr.2.2.2.2.1.len; have h2 : k < σ.2.2.1.length := (List.getElem?_eq_some_iff.mp hx).1; omega) ((hB.1.at (j := 2) rfl).sub 15 rfl)) rfl (by decide) hB rfl rfl rfl rfl (bz_le rfl) (by decide) (by decide) (fun r g1 hQ => ?_)
        obtain ⟨rfl, hg⟩ := hQ
        have hg := hg.symm
        subst hg
        refine g_eqi (v := nI (tK y)) ((hr.2.2.1.1 i y hy).1) ?_
        refine g_callS (q := 62) dX8_blockers_59 rfl ks_X8_108 rfl (c_hasBit) (by decide) rfl (bz_le rfl) (by decide) (by decide) (fun r g1 hQ => ?_)
        obtain ⟨rfl, hg⟩ := hQ
        have hg := hg.symm
        subst hg
        refine g_eqi (v := tB (s_blk D.2.2.1 x y)) (by rw [w_bit _ (s_bk_lt _ _ _ 4) _ hy4, w_blk hd hx4 hy4]) ?_
        cases hb9 : s_blk D.2.2.1 x y with
        | true =>
          refine g_if_eq (q := 65) (t := 74) dX8_blockers_62 rfl (by decide) (fun c => absurd c ((by decide : ¬ tB true = 0))) (fun _ => ?_)
          refine g_iload (q := 67) dX8_blockers_65 rfl rfl ?_
          refine g_iconst (q := 68) (v := (nI 1)) dX8_blockers_67 rfl (by decide) ?_
          refine g_iload (q := 70) dX8_blockers_68 rfl rfl ?_
          refine g_ishl (q := 71) dX8_blockers_70 rfl ?_
          refine g_ior (q := 72) dX8_blockers_71 rfl ?_
          refine g_istore (q := 74) dX8_blockers_72 rfl (by decide) rfl ?_
          refine g_iincN (q := 77) (c := 1) dX8_blockers_74 rfl (by decide) rfl rfl (by decide) ?_
          refine g_goto (q := 44) dX8_blockers_77 (by decide) ?_
          have h9 : s_bset D.2.2.1 x σ.2.2.1 (i + 1) = s_bset D.2.2.1 x σ.2.2.1 i ||| nI 1 <<< (nI i &&& 31) := by
            show s_bset D.2.2.1 x σ.2.2.1 i ||| (match σ.2.2.1[i]? with | some y => if s_blk D.2.2.1 x y then nI 1 <<< (nI i &&& 31) else nI 0 | none => nI 0) = _
            rw [hy]
            show s_bset D.2.2.1 x σ.2.2.1 i ||| (if s_blk D.2.2.1 x y then nI 1 <<< (nI i &&& 31) else nI 0) = _
            rw [hb9]
            rfl
          refine g_lvs (lv1 := [(6, .int (nI (i + 1))), (5, .int (s_bset D.2.2.1 x σ.2.2.1 (i + 1))), (4, .int (nI (s_bk D.2.2.1 (tK x) (tR x) 4))), (3, .ref (o + 27 + 14 + 1)), (0, .ref o), (1, .int (nI 1)), (2, .int (nI k))]) ⟨rfl, congrArg (fun z => some (Value.int z)) h9.symm, rfl, rfl, rfl, rfl, rfl, trivial⟩ ?_
          exact ih (i + 1) (by omega)
        | false =>
          refine g_if_eq (q := 65) (t := 74) dX8_blockers_62 rfl (by decide) (fun _ => ?_) (fun c => absurd ((rfl : tB false = 0)) c)
          refine g_iincN (q := 77) (c := 1) dX8_blockers_74 rfl (by decide) rfl rfl (by decide) ?_
          refine g_goto (q := 44) dX8_blockers_77 (by decide) ?_
          have h9 : s_bset D.2.2.1 x σ.2.2.1 (i + 1) = s_bset D.2.2.1 x σ.2.2.1 i := by
            show s_bset D.2.2.1 x σ.2.2.1 i ||| (match σ.2.2.1[i]? with | some y => if s_blk D.2.2.1 x y then nI 1 <<< (nI i &&& 31) else nI 0 | none => nI 0) = _
            rw [hy]
            show s_bset D.2.2.1 x σ.2.2.1 i ||| (if s_blk D.2.2.1 x y then nI 1 <<< (nI i &&& 31) else nI 0) = _
            rw [hb9]
            exact Int32.or_zero
          refine g_lvs (lv1 := [(6, .int (nI (i + 1))), (5, .int (s_bset D.2.2.1 x σ.2.2.1 (i + 1))), (4, .int (nI (s_bk D.2.2.1 (tK x) (tR x) 4))), (3, .ref (o + 27 + 14 + 1)), (0, .ref o), (1, .int (nI 1)), (2, .int (nI k))]) ⟨rfl, congrArg (fun z => some (Value.int z)) h9.symm, rfl, rfl, rfl, rfl, rfl, trivial⟩ ?_
          exact ih (i + 1) (by omega)
    refine g_aload_n (q := 1) dX8_blockers_0 rfl rfl ?_
    refine g_iload_n (q := 2) dX8_blockers_1 rfl rfl ?_
    refine g_iload_n (q := 3) dX8_blockers_2 rfl rfl ?_
    refine gb_callV (q := 6) (j := 0) (i := 0) dX8_blockers_3 rfl kv_X8_134 (c8_pos0 hs ((List.getElem?_eq_some_iff.mp hx).1) hr hD hB.1) rfl (by decide) hB rfl rfl rfl rfl (bz_le rfl) (by decide) (by decide) (fun r g1 hQ => ?_)
    obtain ⟨rfl, hg⟩ := hQ
    have hg := hg.symm
    subst hg
    refine g_aload_n (q := 7) dX8_blockers_6 rfl rfl ?_
    refine gb_getf (q := 10) (j := 0) (i := 0) dX8_blockers_7 rfl fl_X8_33 hB rfl rfl rfl rfl ?_
    refine g_iload_n (q := 11) dX8_blockers_10 rfl rfl ?_
    refine gb_callV (q := 14) (j := 2) (i := 0) dX8_blockers_11 rfl kv_X8_119 (c_portOf1 (hB.1.at (j := 2) rfl)) rfl (by decide) hB rfl rfl rfl rfl (bz_le rfl) (by decide) (by decide) (fun r g1 hQ => ?_)
    obtain ⟨rfl, hg⟩ := hQ
    have hg := hg.symm
    subst hg
    refine gb_getf (q := 17) (j := 2) (i := 14) dX8_blockers_14 rfl fl_X8_123 hB rfl rfl rfl rfl ?_
    refine g_astore_n (q := 18) rfl dX8_blockers_17 rfl (by decide) rfl ?_
    refine g_aload_n (q := 19) dX8_blockers_18 rfl rfl ?_
    refine gb_getf (q := 22) (j := 0) (i := 0) dX8_blockers_19 rfl fl_X8_23 hB rfl rfl rfl rfl ?_
    refine g_aload_n (q := 23) dX8_blockers_22 rfl rfl ?_
    refine g_iload_n (q := 24) dX8_blockers_23 rfl rfl ?_
    refine g_iconst (q := 25) (v := (nI 0)) dX8_blockers_24 rfl (by decide) ?_
    refine gb_callV (q := 28) (j := 2) (i := 15) dX8_blockers_25 rfl kv_X8_138 (c_get (p := k) (x := 0) (by have h1 := hr.2.2.2.2.1.len; have h2 : k < σ.2.2.1.length := (List.getElem?_eq_some_iff.mp hx).1; omega) ((hB.1.at (j := 2) rfl).sub 15 rfl)) rfl (by decide) hB rfl rfl rfl rfl (bz_le rfl) (by decide) (by decide) (fun r g1 hQ => ?_)
    obtain ⟨rfl, hg⟩ := hQ
    have hg := hg.symm
    subst hg
    refine g_eqi (v := nI (tK x)) ((hr.2.2.1.1 k x hx).1) ?_
    refine g_aload_n (q := 29) dX8_blockers_28 rfl rfl ?_
    refine g_iload_n (q := 30) dX8_blockers_29 rfl rfl ?_
    refine gb_callV (q := 33) (j := 2) (i := 15) dX8_blockers_30 rfl kv_X8_141 (c_isRelaxed (p := k) (by have h1 := hr.2.2.2.2.1.len; have h2 : k < σ.2.2.1.length := (List.getElem?_eq_some_iff.mp hx).1; omega) ((hB.1.at (j := 2) rfl).sub 15 rfl)) rfl (by decide) hB rfl rfl rfl rfl (bz_le rfl) (by decide) (by decide) (fun r g1 hQ => ?_)
    obtain ⟨rfl, hg⟩ := hQ
    have hg := hg.symm
    subst hg
    refine g_eqi (v := tB (tR x)) (by rw [(hr.2.2.1.1 k x hx).2.2.1]; exact w_rx _) ?_
    refine gb_callV (q := 36) (j := 1) (i := 0) dX8_blockers_33 rfl kv_X8_104 (c_blockingKinds (k := tK x) (rx := tR x) (tb := D.2.2.1) hx4 (fun i hi => ⟨hD.2.2.1 i hi, hd.2.1 i hi⟩) (hB.1.at (j := 1) rfl)) rfl (by decide) hB rfl rfl rfl rfl (bz_le rfl) (by decide) (by decide) (fun r g1 hQ => ?_)
    obtain ⟨rfl, hg⟩ := hQ
    have hg := hg.symm
    subst hg
    refine g_istore (q := 38) dX8_blockers_36 rfl (by decide) rfl ?_
    refine g_iconst (q := 39) (v := (nI 0)) dX8_blockers_38 rfl (by decide) ?_
    refine g_istore (q := 41) dX8_blockers_39 rfl (by decide) rfl ?_
    refine g_iconst (q := 42) (v := (nI 0)) dX8_blockers_41 rfl (by decide) ?_
    refine g_istore (q := 44) dX8_blockers_42 rfl (by decide) rfl ?_
    refine g_lvs (lv1 := [(6, .int (nI 0)), (5, .int (s_bset D.2.2.1 x σ.2.2.1 0)), (4, .int (nI (s_bk D.2.2.1 (tK x) (tR x) 4))), (3, .ref (o + 27 + 14 + 1)), (0, .ref o), (1, .int (nI 1)), (2, .int (nI k))]) ⟨rfl, rfl, rfl, rfl, rfl, rfl, rfl, trivial⟩ ?_
    exact K k 0 (by omega)
