/-! the class: checks of positions, tags, ranges -/
theorem nI_ne_m1 {t : Nat} (h : t < 2 ^ 31) : nI t ≠ -1 := by
  intro e
  have := congrArg Int32.toInt e
  rw [nI_toInt h, show (-1 : Int32).toInt = -1 from by decide] at this
  omega

set_option maxRecDepth 20000 in
set_option maxHeartbeats 1000000 in
theorem c8_pos2 {l : Launch} {E : bz_E} {L : List Nat} {g : Nat → va_E} {o : Nat} {v w : Int32} (hl : l.stackTraces = false) (hb : m_bad v 2 = true) : bz_KX l E mX8_checkPosition 7 [.ref o, .int v, .int w] L g x_IOE := by
  refine bz_KX.of (by decide) (bz_le rfl) (fun sz => ?_)
  show bz_G _ _ _ _ _ _ _ _ _ _ _ _ 0 [(0, .ref o), (1, .int v), (2, .int w)] []
  refine g_iload_n (q := 1) dX8_checkPosition_0 rfl rfl ?_
  exact g_callSX dX8_checkPosition_1 (by decide +kernel) ks_X8_116 rfl (c8_checkSide1 hl hb) (by decide) rfl (bz_le rfl)
set_option maxRecDepth 20000 in
set_option maxHeartbeats 1000000 in
theorem c8_pos1 {l : Launch} {E : bz_E} {L : List Nat} {g : Nat → va_E} {o p q : Nat} {n er v0 v1 : Int32} {rp : PLR} {rS : SR} {σ : Si} {D : Pl} {s : Nat} {w : Int32} (hl : l.stackTraces = false) (hs : s < 2) (hb : m_bad w (s_sd s σ).1.length = true) (hr : s_srep rS σ) (hD : d_rep rp D) (hW : bz_W L g [(o, w_obj o p q n er v0 v1), (p, b_PL E p rp), (o + 27, b_Sit E (o + 27) rS)]) : bz_KX l E mX8_checkPosition 7 [.ref o, .int (nI s), .int w] L g x_IOE := by
  refine bz_KX.of (by decide) (bz_le rfl) (fun sz => ?_)
  have hB := bz_B.rf hW
  show bz_G _ _ _ _ _ _ _ _ _ _ _ _ 0 [(0, .ref o), (1, .int (nI s)), (2, .int w)] []
  rcases (show s = 0 ∨ s = 1 by omega) with rfl | rfl
  · refine g_iload_n (q := 1) dX8_checkPosition_0 rfl rfl ?_
    refine g_callS (q := 4) dX8_checkPosition_1 rfl ks_X8_116 rfl (c8_checkSide0 hs) (by decide) rfl (bz_le rfl) (by decide) (by decide) (fun r g1 hQ => ?_)
    obtain ⟨rfl, hg⟩ := hQ
    have hg := hg.symm
    subst hg
    refine g_iload_n (q := 5) dX8_checkPosition_4 rfl rfl ?_
    refine g_if_lt (q := 8) (t := 26) dX8_checkPosition_5 rfl (by decide) (fun c_5 => ?_) (fun c_5 => ?_)
    · exact g_throwW (is := 278) (tx := "no such position") (i := 14) hl rfl (by decide +kernel) (by decide) tx_IOE xk_IOE (by decide +kernel) (bz_le rfl) dX8_checkPosition_26 dX8_checkPosition_29 dX8_checkPosition_30 dX8_checkPosition_33 dX8_checkPosition_36
    · refine g_iload_n (q := 9) dX8_checkPosition_8 rfl rfl ?_
      refine g_aload_n (q := 10) dX8_checkPosition_9 rfl rfl ?_
      refine gb_getf (q := 13) (j := 0) (i := 0) dX8_checkPosition_10 rfl fl_X8_33 hB rfl rfl rfl rfl ?_
      refine g_iload_n (q := 14) dX8_checkPosition_13 rfl rfl ?_
      refine gb_callV (q := 17) (j := 2) (i := 0) dX8_checkPosition_14 rfl kv_X8_119 (c_portOf0 (hB.1.at (j := 2) rfl)) rfl (by decide) hB rfl rfl rfl rfl (bz_le rfl) (by decide) (by decide) (fun r g1 hQ => ?_)
      obtain ⟨rfl, hg⟩ := hQ
      have hg := hg.symm
      subst hg
      refine gb_getf (q := 20) (j := 2) (i := 1) dX8_checkPosition_17 rfl fl_X8_123 hB rfl rfl rfl rfl ?_
      refine gb_getf (q := 23) (j := 2) (i := 2) dX8_checkPosition_20 rfl fl_X8_129 hB rfl rfl rfl rfl ?_
      refine g_eqi (v := nI (σ.2.1.1.length)) (hr.2.1.2.1) ?_
      refine g_icmp_lt (q := 26) (t := 37) dX8_checkPosition_23 rfl (by decide) (fun c_23 => ?_) (fun c_23 => ?_)
      · exact (m_badC (Nat.lt_of_le_of_lt hr.2.1.2.2.1.len (by decide)) hb c_5 c_23).elim
      · exact g_throwW (is := 278) (tx := "no such position") (i := 14) hl rfl (by decide +kernel) (by decide) tx_IOE xk_IOE (by decide +kernel) (bz_le rfl) dX8_checkPosition_26 dX8_checkPosition_29 dX8_checkPosition_30 dX8_checkPosition_33 dX8_checkPosition_36
  · refine g_iload_n (q := 1) dX8_checkPosition_0 rfl rfl ?_
    refine g_callS (q := 4) dX8_checkPosition_1 rfl ks_X8_116 rfl (c8_checkSide0 hs) (by decide) rfl (bz_le rfl) (by decide) (by decide) (fun r g1 hQ => ?_)
    obtain ⟨rfl, hg⟩ := hQ
    have hg := hg.symm
    subst hg
    refine g_iload_n (q := 5) dX8_checkPosition_4 rfl rfl ?_
    refine g_if_lt (q := 8) (t := 26) dX8_checkPosition_5 rfl (by decide) (fun c_5 => ?_) (fun c_5 => ?_)
    · exact g_throwW (is := 278) (tx := "no such position") (i := 14) hl rfl (by decide +kernel) (by decide) tx_IOE xk_IOE (by decide +kernel) (bz_le rfl) dX8_checkPosition_26 dX8_checkPosition_29 dX8_checkPosition_30 dX8_checkPosition_33 dX8_checkPosition_36
    · refine g_iload_n (q := 9) dX8_checkPosition_8 rfl rfl ?_
      refine g_aload_n (q := 10) dX8_checkPosition_9 rfl rfl ?_
      refine gb_getf (q := 13) (j := 0) (i := 0) dX8_checkPosition_10 rfl fl_X8_33 hB rfl rfl rfl rfl ?_
      refine g_iload_n (q := 14) dX8_checkPosition_13 rfl rfl ?_
      refine gb_callV (q := 17) (j := 2) (i := 0) dX8_checkPosition_14 rfl kv_X8_119 (c_portOf1 (hB.1.at (j := 2) rfl)) rfl (by decide) hB rfl rfl rfl rfl (bz_le rfl) (by decide) (by decide) (fun r g1 hQ => ?_)
      obtain ⟨rfl, hg⟩ := hQ
      have hg := hg.symm
      subst hg
      refine gb_getf (q := 20) (j := 2) (i := 14) dX8_checkPosition_17 rfl fl_X8_123 hB rfl rfl rfl rfl ?_
      refine gb_getf (q := 23) (j := 2) (i := 15) dX8_checkPosition_20 rfl fl_X8_129 hB rfl rfl rfl rfl ?_
      refine g_eqi (v := nI (σ.2.2.1.length)) (hr.2.2.2.1) ?_
      refine g_icmp_lt (q := 26) (t := 37) dX8_checkPosition_23 rfl (by decide) (fun c_23 => ?_) (fun c_23 => ?_)
      · exact (m_badC (Nat.lt_of_le_of_lt hr.2.2.2.2.1.len (by decide)) hb c_5 c_23).elim
      · exact g_throwW (is := 278) (tx := "no such position") (i := 14) hl rfl (by decide +kernel) (by decide) tx_IOE xk_IOE (by decide +kernel) (bz_le rfl) dX8_checkPosition_26 dX8_checkPosition_29 dX8_checkPosition_30 dX8_checkPosition_33 dX8_checkPosition_36
set_option maxRecDepth 20000 in
set_option maxHeartbeats 1000000 in
theorem c8_pos0 {l : Launch} {E : bz_E} {L : List Nat} {g : Nat → va_E} {o p q : Nat} {n er v0 v1 : Int32} {rp : PLR} {rS : SR} {σ : Si} {D : Pl} {s k : Nat} (hs : s < 2) (hk : k < (s_sd s σ).1.length) (hr : s_srep rS σ) (hD : d_rep rp D) (hW : bz_W L g [(o, w_obj o p q n er v0 v1), (p, b_PL E p rp), (o + 27, b_Sit E (o + 27) rS)]) : bz_K l E mX8_checkPosition 1 [.ref o, .int (nI s), .int (nI k)] L g (fun r g1 => r = none ∧ g1 = g) := by
  refine bz_K.of (by decide) (bz_le rfl) (fun sz => ?_)
  have hB := bz_B.rf hW
  show bz_G _ _ _ _ _ _ _ _ _ _ _ _ 0 [(0, .ref o), (1, .int (nI s)), (2, .int (nI k))] []
  rcases (show s = 0 ∨ s = 1 by omega) with rfl | rfl
  · refine g_iload_n (q := 1) dX8_checkPosition_0 rfl rfl ?_
    refine g_callS (q := 4) dX8_checkPosition_1 rfl ks_X8_116 rfl (c8_checkSide0 hs) (by decide) rfl (bz_le rfl) (by decide) (by decide) (fun r g1 hQ => ?_)
    obtain ⟨rfl, hg⟩ := hQ
    have hg := hg.symm
    subst hg
    refine g_iload_n (q := 5) dX8_checkPosition_4 rfl rfl ?_
    refine g_ifN_lt (q := 8) (t := 26) dX8_checkPosition_5 rfl (by decide) (by have h1 := hr.2.1.2.2.1.len; have h2 : k < σ.2.1.1.length := hk; omega) ?_
    refine g_iload_n (q := 9) dX8_checkPosition_8 rfl rfl ?_
    refine g_aload_n (q := 10) dX8_checkPosition_9 rfl rfl ?_
    refine gb_getf (q := 13) (j := 0) (i := 0) dX8_checkPosition_10 rfl fl_X8_33 hB rfl rfl rfl rfl ?_
    refine g_iload_n (q := 14) dX8_checkPosition_13 rfl rfl ?_
    refine gb_callV (q := 17) (j := 2) (i := 0) dX8_checkPosition_14 rfl kv_X8_119 (c_portOf0 (hB.1.at (j := 2) rfl)) rfl (by decide) hB rfl rfl rfl rfl (bz_le rfl) (by decide) (by decide) (fun r g1 hQ => ?_)
    obtain ⟨rfl, hg⟩ := hQ
    have hg := hg.symm
    subst hg
    refine gb_getf (q := 20) (j := 2) (i := 1) dX8_checkPosition_17 rfl fl_X8_123 hB rfl rfl rfl rfl ?_
    refine gb_getf (q := 23) (j := 2) (i := 2) dX8_checkPosition_20 rfl fl_X8_129 hB rfl rfl rfl rfl ?_
    refine g_eqi (v := nI (σ.2.1.1.length)) (hr.2.1.2.1) ?_
    have hk : k < σ.2.1.1.length := hk
    refine g_icmpN_lt (q := 26) (t := 37) dX8_checkPosition_23 rfl (by decide) (by have h1 := hr.2.1.2.2.1.len; have h2 : k < σ.2.1.1.length := hk; omega) (by have h1 := hr.2.1.2.2.1.len; omega) (fun _ => ?_) (fun c => absurd c (by omega))
    exact g_vret dX8_checkPosition_37 rfl (⟨rfl, rfl⟩)
  · refine g_iload_n (q := 1) dX8_checkPosition_0 rfl rfl ?_
    refine g_callS (q := 4) dX8_checkPosition_1 rfl ks_X8_116 rfl (c8_checkSide0 hs) (by decide) rfl (bz_le rfl) (by decide) (by decide) (fun r g1 hQ => ?_)
    obtain ⟨rfl, hg⟩ := hQ
    have hg := hg.symm
    subst hg
    refine g_iload_n (q := 5) dX8_checkPosition_4 rfl rfl ?_
    refine g_ifN_lt (q := 8) (t := 26) dX8_checkPosition_5 rfl (by decide) (by have h1 := hr.2.2.2.2.1.len; have h2 : k < σ.2.2.1.length := hk; omega) ?_
    refine g_iload_n (q := 9) dX8_checkPosition_8 rfl rfl ?_
    refine g_aload_n (q := 10) dX8_checkPosition_9 rfl rfl ?_
    refine gb_getf (q := 13) (j := 0) (i := 0) dX8_checkPosition_10 rfl fl_X8_33 hB rfl rfl rfl rfl ?_
    refine g_iload_n (q := 14) dX8_checkPosition_13 rfl rfl ?_
    refine gb_callV (q := 17) (j := 2) (i := 0) dX8_checkPosition_14 rfl kv_X8_119 (c_portOf1 (hB.1.at (j := 2) rfl)) rfl (by decide) hB rfl rfl rfl rfl (bz_le rfl) (by decide) (by decide) (fun r g1 hQ => ?_)
    obtain ⟨rfl, hg⟩ := hQ
    have hg := hg.symm
    subst hg
    refine gb_getf (q := 20) (j := 2) (i := 14) dX8_checkPosition_17 rfl fl_X8_123 hB rfl rfl rfl rfl ?_
    refine gb_getf (q := 23) (j := 2) (i := 15) dX8_checkPosition_20 rfl fl_X8_129 hB rfl rfl rfl rfl ?_
    refine g_eqi (v := nI (σ.2.2.1.length)) (hr.2.2.2.1) ?_
    have hk : k < σ.2.2.1.length := hk
    refine g_icmpN_lt (q := 26) (t := 37) dX8_checkPosition_23 rfl (by decide) (by have h1 := hr.2.2.2.2.1.len; have h2 : k < σ.2.2.1.length := hk; omega) (by have h1 := hr.2.2.2.2.1.len; omega) (fun _ => ?_) (fun c => absurd c (by omega))
    exact g_vret dX8_checkPosition_37 rfl (⟨rfl, rfl⟩)
set_option maxRecDepth 20000 in
set_option maxHeartbeats 1000000 in
theorem c8_tag2 {l : Launch} {E : bz_E} {L : List Nat} {g : Nat → va_E} {o : Nat} {v w : Int32} (hl : l.stackTraces = false) (hb : m_bad v 2 = true) : bz_KX l E mX8_checkTag 7 [.ref o, .int v, .int w] L g x_IOE := by
  refine bz_KX.of (by decide) (bz_le rfl) (fun sz => ?_)
  show bz_G _ _ _ _ _ _ _ _ _ _ _ _ 0 [(0, .ref o), (1, .int v), (2, .int w)] []
  refine g_iload_n (q := 1) dX8_checkTag_0 rfl rfl ?_
  exact g_callSX dX8_checkTag_1 (by decide +kernel) ks_X8_116 rfl (c8_checkSide1 hl hb) (by decide) rfl (bz_le rfl)
set_option maxRecDepth 20000 in
set_option maxHeartbeats 1000000 in
theorem c8_tag1 {l : Launch} {E : bz_E} {L : List Nat} {g : Nat → va_E} {o p q : Nat} {n er v0 v1 : Int32} {rp : PLR} {rS : SR} {σ : Si} {D : Pl} {s : Nat} {w : Int32} (hl : l.stackTraces = false) (hs : s < 2) (hd8 : D.2.2.2.2.2.1 ≤ 8) (hb : m_bad w D.2.2.2.2.2.1 = true) (hr : s_srep rS σ) (hD : d_rep rp D) (hW : bz_W L g [(o, w_obj o p q n er v0 v1), (p, b_PL E p rp), (o + 27, b_Sit E (o + 27) rS)]) : bz_KX l E mX8_checkTag 7 [.ref o, .int (nI s), .int w] L g x_IOE := by
  refine bz_KX.of (by decide) (bz_le rfl) (fun sz => ?_)
  have hB := bz_B.rf hW
  show bz_G _ _ _ _ _ _ _ _ _ _ _ _ 0 [(0, .ref o), (1, .int (nI s)), (2, .int w)] []
  refine g_iload_n (q := 1) dX8_checkTag_0 rfl rfl ?_
  refine g_callS (q := 4) dX8_checkTag_1 rfl ks_X8_116 rfl (c8_checkSide0 hs) (by decide) rfl (bz_le rfl) (by decide) (by decide) (fun r g1 hQ => ?_)
  obtain ⟨rfl, hg⟩ := hQ
  have hg := hg.symm
  subst hg
  refine g_iload_n (q := 5) dX8_checkTag_4 rfl rfl ?_
  refine g_if_lt (q := 8) (t := 19) dX8_checkTag_5 rfl (by decide) (fun c_5 => ?_) (fun c_5 => ?_)
  · exact g_throwW (is := 283) (tx := "no such tag") (i := 16) hl rfl (by decide +kernel) (by decide) tx_IOE xk_IOE (by decide +kernel) (bz_le rfl) dX8_checkTag_19 dX8_checkTag_22 dX8_checkTag_23 dX8_checkTag_26 dX8_checkTag_29
  · refine g_iload_n (q := 9) dX8_checkTag_8 rfl rfl ?_
    refine g_aload_n (q := 10) dX8_checkTag_9 rfl rfl ?_
    refine gb_getf (q := 13) (j := 0) (i := 0) dX8_checkTag_10 rfl fl_X8_23 hB rfl rfl rfl rfl ?_
    refine gb_getf (q := 16) (j := 1) (i := 0) dX8_checkTag_13 rfl fl_X8_280 hB rfl rfl rfl rfl ?_
    refine g_eqi (v := nI (D.2.2.2.2.2.1)) (hD.2.2.2.2.2.1) ?_
    refine g_icmp_lt (q := 19) (t := 30) dX8_checkTag_16 rfl (by decide) (fun c_16 => ?_) (fun c_16 => ?_)
    · exact (m_badC (by omega) hb c_5 c_16).elim
    · exact g_throwW (is := 283) (tx := "no such tag") (i := 16) hl rfl (by decide +kernel) (by decide) tx_IOE xk_IOE (by decide +kernel) (bz_le rfl) dX8_checkTag_19 dX8_checkTag_22 dX8_checkTag_23 dX8_checkTag_26 dX8_checkTag_29
set_option maxRecDepth 20000 in
set_option maxHeartbeats 1000000 in
theorem c8_tag0 {l : Launch} {E : bz_E} {L : List Nat} {g : Nat → va_E} {o p q : Nat} {n er v0 v1 : Int32} {rp : PLR} {rS : SR} {σ : Si} {D : Pl} {s k : Nat} (hs : s < 2) (hd8 : D.2.2.2.2.2.1 ≤ 8) (hk : k < D.2.2.2.2.2.1) (hr : s_srep rS σ) (hD : d_rep rp D) (hW : bz_W L g [(o, w_obj o p q n er v0 v1), (p, b_PL E p rp), (o + 27, b_Sit E (o + 27) rS)]) : bz_K l E mX8_checkTag 1 [.ref o, .int (nI s), .int (nI k)] L g (fun r g1 => r = none ∧ g1 = g) := by
  refine bz_K.of (by decide) (bz_le rfl) (fun sz => ?_)
  have hB := bz_B.rf hW
  show bz_G _ _ _ _ _ _ _ _ _ _ _ _ 0 [(0, .ref o), (1, .int (nI s)), (2, .int (nI k))] []
  refine g_iload_n (q := 1) dX8_checkTag_0 rfl rfl ?_
  refine g_callS (q := 4) dX8_checkTag_1 rfl ks_X8_116 rfl (c8_checkSide0 hs) (by decide) rfl (bz_le rfl) (by decide) (by decide) (fun r g1 hQ => ?_)
  obtain ⟨rfl, hg⟩ := hQ
  have hg := hg.symm
  subst hg
  refine g_iload_n (q := 5) dX8_checkTag_4 rfl rfl ?_
  refine g_ifN_lt (q := 8) (t := 19) dX8_checkTag_5 rfl (by decide) (by omega) ?_
  refine g_iload_n (q := 9) dX8_checkTag_8 rfl rfl ?_
  refine g_aload_n (q := 10) dX8_checkTag_9 rfl rfl ?_
  refine gb_getf (q := 13) (j := 0) (i := 0) dX8_checkTag_10 rfl fl_X8_23 hB rfl rfl rfl rfl ?_
  refine gb_getf (q := 16) (j := 1) (i := 0) dX8_checkTag_13 rfl fl_X8_280 hB rfl rfl rfl rfl ?_
  refine g_eqi (v := nI (D.2.2.2.2.2.1)) (hD.2.2.2.2.2.1) ?_
  refine g_icmpN_lt (q := 19) (t := 30) dX8_checkTag_16 rfl (by decide) (by omega) (by omega) (fun _ => ?_) (fun c => absurd c (by omega))
  exact g_vret dX8_checkTag_30 rfl (⟨rfl, rfl⟩)
set_option maxRecDepth 20000 in
set_option maxHeartbeats 1000000 in
theorem c8_range0 {l : Launch} {E : bz_E} {L : List Nat} {g : Nat → va_E} {a b : Nat} (ha : a < 16) (hb : 1 ≤ b ∧ b ≤ 4) (hab : a + b ≤ 16) : bz_K l E mX8_checkRange 0 [.int (nI a), .int (nI b)] L g (fun r g1 => r = none ∧ g1 = g) := by
  refine bz_K.of (by decide) (bz_le rfl) (fun sz => ?_)
  show bz_G _ _ _ _ _ _ _ _ _ _ _ _ 0 [(0, .int (nI a)), (1, .int (nI b))] []
  refine g_iload_n (q := 1) dX8_checkRange_0 rfl rfl ?_
  refine g_ifN_lt (q := 4) (t := 10) dX8_checkRange_1 rfl (by decide) (by omega) ?_
  refine g_iload_n (q := 5) dX8_checkRange_4 rfl rfl ?_
  refine g_bipush (q := 7) (v := (nI 16)) dX8_checkRange_5 rfl (by decide) ?_
  refine g_icmpN_lt (q := 10) (t := 20) dX8_checkRange_7 rfl (by decide) (by omega) (by omega) (fun _ => ?_) (fun c => absurd c (by omega))
  refine g_iload_n (q := 21) dX8_checkRange_20 rfl rfl ?_
  refine g_iconst (q := 22) (v := (nI 1)) dX8_checkRange_21 rfl (by decide) ?_
  refine g_icmpN_lt (q := 25) (t := 38) dX8_checkRange_22 rfl (by decide) (by omega) (by omega) (fun c => absurd c (by omega)) (fun _ => ?_)
  refine g_iload_n (q := 26) dX8_checkRange_25 rfl rfl ?_
  refine g_iconst (q := 27) (v := (nI 4)) dX8_checkRange_26 rfl (by decide) ?_
  refine g_icmpN_gt (q := 30) (t := 38) dX8_checkRange_27 rfl (by decide) (by omega) (by omega) (fun c => absurd c (by omega)) (fun _ => ?_)
  refine g_iload_n (q := 31) dX8_checkRange_30 rfl rfl ?_
  refine g_iload_n (q := 32) dX8_checkRange_31 rfl rfl ?_
  refine g_iaddN (q := 33) dX8_checkRange_32 rfl ?_
  refine g_bipush (q := 35) (v := (nI 16)) dX8_checkRange_33 rfl (by decide) ?_
  refine g_icmpN_le (q := 38) (t := 49) dX8_checkRange_35 rfl (by decide) (by omega) (by omega) (fun _ => ?_) (fun c => absurd c (by omega))
  exact g_vret dX8_checkRange_49 rfl (⟨rfl, rfl⟩)
set_option maxRecDepth 20000 in
set_option maxHeartbeats 1000000 in
theorem c8_range1 {l : Launch} {E : bz_E} {L : List Nat} {g : Nat → va_E} {v w : Int32} (hl : l.stackTraces = false) (hb : m_bad v 16 = true ∨ (if w < nI 1 then (0 : Int32) else if nI 4 < w then 0 else 1) = nI 0 ∨ ∃ a b : Nat, v = nI a ∧ w = nI b ∧ a < 16 ∧ b ≤ 4 ∧ 16 < a + b) : bz_KX l E mX8_checkRange 6 [.int v, .int w] L g x_IAE := by
  refine bz_KX.of (by decide) (bz_le rfl) (fun sz => ?_)
  show bz_G _ _ _ _ _ _ _ _ _ _ _ _ 0 [(0, .int v), (1, .int w)] []
  cases e : m_bad v 16 with
  | true =>
    refine g_iload_n (q := 1) dX8_checkRange_0 rfl rfl ?_
    refine g_if_lt (q := 4) (t := 10) dX8_checkRange_1 rfl (by decide) (fun c_1 => ?_) (fun c_1 => ?_)
    · exact g_throw (is := 158) (tx := "no such address") (i := 15) hl rfl (by decide +kernel) (by decide) tx_IAE xk_IAE (by decide +kernel) (bz_le rfl) dX8_checkRange_10 dX8_checkRange_13 dX8_checkRange_14 dX8_checkRange_16 dX8_checkRange_19
    · refine g_iload_n (q := 5) dX8_checkRange_4 rfl rfl ?_
      refine g_bipush (q := 7) (v := (nI 16)) dX8_checkRange_5 rfl (by decide) ?_
      refine g_icmp_lt (q := 10) (t := 20) dX8_checkRange_7 rfl (by decide) (fun c_7 => ?_) (fun c_7 => ?_)
      · exact (m_badC (by decide) e c_1 c_7).elim
      · exact g_throw (is := 158) (tx := "no such address") (i := 15) hl rfl (by decide +kernel) (by decide) tx_IAE xk_IAE (by decide +kernel) (bz_le rfl) dX8_checkRange_10 dX8_checkRange_13 dX8_checkRange_14 dX8_checkRange_16 dX8_checkRange_19
  | false =>
    obtain ⟨a, ha, rfl⟩ := m_badE (by decide) e
    refine g_iload_n (q := 1) dX8_checkRange_0 rfl rfl ?_
    refine g_ifN_lt (q := 4) (t := 10) dX8_checkRange_1 rfl (by decide) (by omega) ?_
    refine g_iload_n (q := 5) dX8_checkRange_4 rfl rfl ?_
    refine g_bipush (q := 7) (v := (nI 16)) dX8_checkRange_5 rfl (by decide) ?_
    refine g_icmpN_lt (q := 10) (t := 20) dX8_checkRange_7 rfl (by decide) (by omega) (by omega) (fun _ => ?_) (fun c => absurd c (by omega))
    refine g_iload_n (q := 21) dX8_checkRange_20 rfl rfl ?_
    refine g_iconst (q := 22) (v := (nI 1)) dX8_checkRange_21 rfl (by decide) ?_
    refine g_icmp_lt (q := 25) (t := 38) dX8_checkRange_22 rfl (by decide) (fun c_22 => ?_) (fun c_22 => ?_)
    · exact g_throwW (is := 285) (tx := "no such number of words") (i := 20) hl rfl (by decide +kernel) (by decide) tx_IAE xk_IAE (by decide +kernel) (bz_le rfl) dX8_checkRange_38 dX8_checkRange_41 dX8_checkRange_42 dX8_checkRange_45 dX8_checkRange_48
    · refine g_iload_n (q := 26) dX8_checkRange_25 rfl rfl ?_
      refine g_iconst (q := 27) (v := (nI 4)) dX8_checkRange_26 rfl (by decide) ?_
      refine g_icmp_gt (q := 30) (t := 38) dX8_checkRange_27 rfl (by decide) (fun c_27 => ?_) (fun c_27 => ?_)
      · exact g_throwW (is := 285) (tx := "no such number of words") (i := 20) hl rfl (by decide +kernel) (by decide) tx_IAE xk_IAE (by decide +kernel) (bz_le rfl) dX8_checkRange_38 dX8_checkRange_41 dX8_checkRange_42 dX8_checkRange_45 dX8_checkRange_48
      · rcases hb with h | h | ⟨x, y, e1, rfl, h3, h4, h5⟩
        · rw [e] at h; cases h
        · rw [if_neg c_22, if_neg c_27] at h; exact absurd h (by decide)
        · have hax : a = x := (nI_eq (by omega) (by omega)).mp e1
          subst hax
          refine g_iload_n (q := 31) dX8_checkRange_30 rfl rfl ?_
          refine g_iload_n (q := 32) dX8_checkRange_31 rfl rfl ?_
          refine g_iaddN (q := 33) dX8_checkRange_32 rfl ?_
          refine g_bipush (q := 35) (v := (nI 16)) dX8_checkRange_33 rfl (by decide) ?_
          refine g_icmpN_le (q := 38) (t := 49) dX8_checkRange_35 rfl (by decide) (by omega) (by omega) (fun c => absurd c (by omega)) (fun _ => ?_)
          exact g_throwW (is := 285) (tx := "no such number of words") (i := 20) hl rfl (by decide +kernel) (by decide) tx_IAE xk_IAE (by decide +kernel) (bz_le rfl) dX8_checkRange_38 dX8_checkRange_41 dX8_checkRange_42 dX8_checkRange_45 dX8_checkRange_48
set_option maxRecDepth 20000 in
set_option maxHeartbeats 1000000 in
theorem c8_room0 {l : Launch} {E : bz_E} {L : List Nat} {g : Nat → va_E} {o p q : Nat} {n er v0 v1 : Int32} {rp : PLR} {rS : SR} {σ : Si} {D : Pl} {s k : Nat} (hs : s < 2) (hk : k < 4) (hd8 : ∀ k, k < 8 → D.1 k ≤ 8) (hlt : s_cnt k (s_sd s σ).1 < D.1 (s * 4 + k)) (hr : s_srep rS σ) (hD : d_rep rp D) (hW : bz_W L g [(o, w_obj o p q n er v0 v1), (p, b_PL E p rp), (o + 27, b_Sit E (o + 27) rS)]) : bz_K l E mX8_checkRoom 2 [.ref o, .int (nI s), .int (nI k)] L g (fun r g1 => r = none ∧ g1 = g) := by
  refine bz_K.of (by decide) (bz_le rfl) (fun sz => ?_)
  have hB := bz_B.rf hW
  show bz_G _ _ _ _ _ _ _ _ _ _ _ _ 0 [(0, .ref o), (1, .int (nI s)), (2, .int (nI k))] []
  rcases (show s = 0 ∨ s = 1 by omega) with rfl | rfl
  · refine g_aload_n (q := 1) dX8_checkRoom_0 rfl rfl ?_
    refine gb_getf (q := 4) (j := 0) (i := 0) dX8_checkRoom_1 rfl fl_X8_33 hB rfl rfl rfl rfl ?_
    refine g_iload_n (q := 5) dX8_checkRoom_4 rfl rfl ?_
    refine gb_callV (q := 8) (j := 2) (i := 0) dX8_checkRoom_5 rfl kv_X8_119 (c_portOf0 (hB.1.at (j := 2) rfl)) rfl (by decide) hB rfl rfl rfl rfl (bz_le rfl) (by decide) (by decide) (fun r g1 hQ => ?_)
    obtain ⟨rfl, hg⟩ := hQ
    have hg := hg.symm
    subst hg
    refine gb_getf (q := 11) (j := 2) (i := 1) dX8_checkRoom_8 rfl fl_X8_123 hB rfl rfl rfl rfl ?_
    refine g_iload_n (q := 12) dX8_checkRoom_11 rfl rfl ?_
    refine gb_callV (q := 15) (j := 2) (i := 2) dX8_checkRoom_12 rfl kv_X8_152 (c_countOf (k := k) (by omega) ((hB.1.at (j := 2) rfl).sub 2 rfl)) rfl (by decide) hB rfl rfl rfl rfl (bz_le rfl) (by decide) (by decide) (fun r g1 hQ => ?_)
    obtain ⟨rfl, hg⟩ := hQ
    have hg := hg.symm
    subst hg
    refine g_eqi (v := nI (s_cnt k σ.2.1.1)) (hr.2.1.1.2 k (by omega)) ?_
    refine g_aload_n (q := 16) dX8_checkRoom_15 rfl rfl ?_
    refine gb_getf (q := 19) (j := 0) (i := 0) dX8_checkRoom_16 rfl fl_X8_23 hB rfl rfl rfl rfl ?_
    refine g_iload_n (q := 20) dX8_checkRoom_19 rfl rfl ?_
    refine g_iload_n (q := 21) dX8_checkRoom_20 rfl rfl ?_
    refine gb_callV (q := 24) (j := 1) (i := 0) dX8_checkRoom_21 rfl kv_X8_287 (c_sizeOf (s := 0) (k := k) (by omega) (hB.1.at (j := 1) rfl)) rfl (by decide) hB rfl rfl rfl rfl (bz_le rfl) (by decide) (by decide) (fun r g1 hQ => ?_)
    obtain ⟨rfl, hg⟩ := hQ
    have hg := hg.symm
    subst hg
    refine g_eqi (v := nI (D.1 (0 * 4 + k))) (hD.1 _ (by omega)) ?_
    have hlt : s_cnt k σ.2.1.1 < D.1 (0 * 4 + k) := hlt
    refine g_icmpN_lt (q := 27) (t := 38) dX8_checkRoom_24 rfl (by decide) (by have h1 := hr.2.1.2.2.1.2 k (by omega); omega) (by have h1 := hd8 (0 * 4 + k) (by omega); omega) (fun _ => ?_) (fun c => absurd c (by omega))
    exact g_vret dX8_checkRoom_38 rfl (⟨rfl, rfl⟩)
  · refine g_aload_n (q := 1) dX8_checkRoom_0 rfl rfl ?_
    refine gb_getf (q := 4) (j := 0) (i := 0) dX8_checkRoom_1 rfl fl_X8_33 hB rfl rfl rfl rfl ?_
    refine g_iload_n (q := 5) dX8_checkRoom_4 rfl rfl ?_
    refine gb_callV (q := 8) (j := 2) (i := 0) dX8_checkRoom_5 rfl kv_X8_119 (c_portOf1 (hB.1.at (j := 2) rfl)) rfl (by decide) hB rfl rfl rfl rfl (bz_le rfl) (by decide) (by decide) (fun r g1 hQ => ?_)
    obtain ⟨rfl, hg⟩ := hQ
    have hg := hg.symm
    subst hg
    refine gb_getf (q := 11) (j := 2) (i := 14) dX8_checkRoom_8 rfl fl_X8_123 hB rfl rfl rfl rfl ?_
    refine g_iload_n (q := 12) dX8_checkRoom_11 rfl rfl ?_
    refine gb_callV (q := 15) (j := 2) (i := 15) dX8_checkRoom_12 rfl kv_X8_152 (c_countOf (k := k) (by omega) ((hB.1.at (j := 2) rfl).sub 15 rfl)) rfl (by decide) hB rfl rfl rfl rfl (bz_le rfl) (by decide) (by decide) (fun r g1 hQ => ?_)
    obtain ⟨rfl, hg⟩ := hQ
    have hg := hg.symm
    subst hg
    refine g_eqi (v := nI (s_cnt k σ.2.2.1)) (hr.2.2.1.2 k (by omega)) ?_
    refine g_aload_n (q := 16) dX8_checkRoom_15 rfl rfl ?_
    refine gb_getf (q := 19) (j := 0) (i := 0) dX8_checkRoom_16 rfl fl_X8_23 hB rfl rfl rfl rfl ?_
    refine g_iload_n (q := 20) dX8_checkRoom_19 rfl rfl ?_
    refine g_iload_n (q := 21) dX8_checkRoom_20 rfl rfl ?_
    refine gb_callV (q := 24) (j := 1) (i := 0) dX8_checkRoom_21 rfl kv_X8_287 (c_sizeOf (s := 1) (k := k) (by omega) (hB.1.at (j := 1) rfl)) rfl (by decide) hB rfl rfl rfl rfl (bz_le rfl) (by decide) (by decide) (fun r g1 hQ => ?_)
    obtain ⟨rfl, hg⟩ := hQ
    have hg := hg.symm
    subst hg
    refine g_eqi (v := nI (D.1 (1 * 4 + k))) (hD.1 _ (by omega)) ?_
    have hlt : s_cnt k σ.2.2.1 < D.1 (1 * 4 + k) := hlt
    refine g_icmpN_lt (q := 27) (t := 38) dX8_checkRoom_24 rfl (by decide) (by have h1 := hr.2.2.2.2.1.2 k (by omega); omega) (by have h1 := hd8 (1 * 4 + k) (by omega); omega) (fun _ => ?_) (fun c => absurd c (by omega))
    exact g_vret dX8_checkRoom_38 rfl (⟨rfl, rfl⟩)
set_option maxRecDepth 20000 in
set_option maxHeartbeats 1000000 in
theorem c8_room1 {l : Launch} {E : bz_E} {L : List Nat} {g : Nat → va_E} {o p q : Nat} {n er v0 v1 : Int32} {rp : PLR} {rS : SR} {σ : Si} {D : Pl} {s k : Nat} (hl : l.stackTraces = false) (hs : s < 2) (hk : k < 4) (hd8 : ∀ k, k < 8 → D.1 k ≤ 8) (hlt : D.1 (s * 4 + k) ≤ s_cnt k (s_sd s σ).1) (hr : s_srep rS σ) (hD : d_rep rp D) (hW : bz_W L g [(o, w_obj o p q n er v0 v1), (p, b_PL E p rp), (o + 27, b_Sit E (o + 27) rS)]) : bz_KX l E mX8_checkRoom 6 [.ref o, .int (nI s), .int (nI k)] L g x_ISE := by
  refine bz_KX.of (by decide) (bz_le rfl) (fun sz => ?_)
  have hB := bz_B.rf hW
  show bz_G _ _ _ _ _ _ _ _ _ _ _ _ 0 [(0, .ref o), (1, .int (nI s)), (2, .int (nI k))] []
  rcases (show s = 0 ∨ s = 1 by omega) with rfl | rfl
  · refine g_aload_n (q := 1) dX8_checkRoom_0 rfl rfl ?_
    refine gb_getf (q := 4) (j := 0) (i := 0) dX8_checkRoom_1 rfl fl_X8_33 hB rfl rfl rfl rfl ?_
    refine g_iload_n (q := 5) dX8_checkRoom_4 rfl rfl ?_
    refine gb_callV (q := 8) (j := 2) (i := 0) dX8_checkRoom_5 rfl kv_X8_119 (c_portOf0 (hB.1.at (j := 2) rfl)) rfl (by decide) hB rfl rfl rfl rfl (bz_le rfl) (by decide) (by decide) (fun r g1 hQ => ?_)
    obtain ⟨rfl, hg⟩ := hQ
    have hg := hg.symm
    subst hg
    refine gb_getf (q := 11) (j := 2) (i := 1) dX8_checkRoom_8 rfl fl_X8_123 hB rfl rfl rfl rfl ?_
    refine g_iload_n (q := 12) dX8_checkRoom_11 rfl rfl ?_
    refine gb_callV (q := 15) (j := 2) (i := 2) dX8_checkRoom_12 rfl kv_X8_152 (c_countOf (k := k) (by omega) ((hB.1.at (j := 2) rfl).sub 2 rfl)) rfl (by decide) hB rfl rfl rfl rfl (bz_le rfl) (by decide) (by decide) (fun r g1 hQ => ?_)
    obtain ⟨rfl, hg⟩ := hQ
    have hg := hg.symm
    subst hg
    refine g_eqi (v := nI (s_cnt k σ.2.1.1)) (hr.2.1.1.2 k (by omega)) ?_
    refine g_aload_n (q := 16) dX8_checkRoom_15 rfl rfl ?_
    refine gb_getf (q := 19) (j := 0) (i := 0) dX8_checkRoom_16 rfl fl_X8_23 hB rfl rfl rfl rfl ?_
    refine g_iload_n (q := 20) dX8_checkRoom_19 rfl rfl ?_
    refine g_iload_n (q := 21) dX8_checkRoom_20 rfl rfl ?_
    refine gb_callV (q := 24) (j := 1) (i := 0) dX8_checkRoom_21 rfl kv_X8_287 (c_sizeOf (s := 0) (k := k) (by omega) (hB.1.at (j := 1) rfl)) rfl (by decide) hB rfl rfl rfl rfl (bz_le rfl) (by decide) (by decide) (fun r g1 hQ => ?_)
    obtain ⟨rfl, hg⟩ := hQ
    have hg := hg.symm
    subst hg
    refine g_eqi (v := nI (D.1 (0 * 4 + k))) (hD.1 _ (by omega)) ?_
    have hlt : D.1 (0 * 4 + k) ≤ s_cnt k σ.2.1.1 := hlt
    refine g_icmpN_lt (q := 27) (t := 38) dX8_checkRoom_24 rfl (by decide) (by have h1 := hr.2.1.2.2.1.2 k (by omega); omega) (by have h1 := hd8 (0 * 4 + k) (by omega); omega) (fun c => absurd c (by omega)) (fun _ => ?_)
    exact g_throwW (is := 290) (tx := "no room in the buffer") (i := 21) hl rfl (by decide +kernel) (by decide) tx_ISE xk_ISE (by decide +kernel) (bz_le rfl) dX8_checkRoom_27 dX8_checkRoom_30 dX8_checkRoom_31 dX8_checkRoom_34 dX8_checkRoom_37
  · refine g_aload_n (q := 1) dX8_checkRoom_0 rfl rfl ?_
    refine gb_getf (q := 4) (j := 0) (i := 0) dX8_checkRoom_1 rfl fl_X8_33 hB rfl rfl rfl rfl ?_
    refine g_iload_n (q := 5) dX8_checkRoom_4 rfl rfl ?_
    refine gb_callV (q := 8) (j := 2) (i := 0) dX8_checkRoom_5 rfl kv_X8_119 (c_portOf1 (hB.1.at (j := 2) rfl)) rfl (by decide) hB rfl rfl rfl rfl (bz_le rfl) (by decide) (by decide) (fun r g1 hQ => ?_)
    obtain ⟨rfl, hg⟩ := hQ
    have hg := hg.symm
    subst hg
    refine gb_getf (q := 11) (j := 2) (i := 14) dX8_checkRoom_8 rfl fl_X8_123 hB rfl rfl rfl rfl ?_
    refine g_iload_n (q := 12) dX8_checkRoom_11 rfl rfl ?_
    refine gb_callV (q := 15) (j := 2) (i := 15) dX8_checkRoom_12 rfl kv_X8_152 (c_countOf (k := k) (by omega) ((hB.1.at (j := 2) rfl).sub 15 rfl)) rfl (by decide) hB rfl rfl rfl rfl (bz_le rfl) (by decide) (by decide) (fun r g1 hQ => ?_)
    obtain ⟨rfl, hg⟩ := hQ
    have hg := hg.symm
    subst hg
    refine g_eqi (v := nI (s_cnt k σ.2.2.1)) (hr.2.2.1.2 k (by omega)) ?_
    refine g_aload_n (q := 16) dX8_checkRoom_15 rfl rfl ?_
    refine gb_getf (q := 19) (j := 0) (i := 0) dX8_checkRoom_16 rfl fl_X8_23 hB rfl rfl rfl rfl ?_
    refine g_iload_n (q := 20) dX8_checkRoom_19 rfl rfl ?_
    refine g_iload_n (q := 21) dX8_checkRoom_20 rfl rfl ?_
    refine gb_callV (q := 24) (j := 1) (i := 0) dX8_checkRoom_21 rfl kv_X8_287 (c_sizeOf (s := 1) (k := k) (by omega) (hB.1.at (j := 1) rfl)) rfl (by decide) hB rfl rfl rfl rfl (bz_le rfl) (by decide) (by decide) (fun r g1 hQ => ?_)
    obtain ⟨rfl, hg⟩ := hQ
    have hg := hg.symm
    subst hg
    refine g_eqi (v := nI (D.1 (1 * 4 + k))) (hD.1 _ (by omega)) ?_
    have hlt : D.1 (1 * 4 + k) ≤ s_cnt k σ.2.2.1 := hlt
    refine g_icmpN_lt (q := 27) (t := 38) dX8_checkRoom_24 rfl (by decide) (by have h1 := hr.2.2.2.2.1.2 k (by omega); omega) (by have h1 := hd8 (1 * 4 + k) (by omega); omega) (fun c => absurd c (by omega)) (fun _ => ?_)
    exact g_throwW (is := 290) (tx := "no room in the buffer") (i := 21) hl rfl (by decide +kernel) (by decide) tx_ISE xk_ISE (by decide +kernel) (bz_le rfl) dX8_checkRoom_27 dX8_checkRoom_30 dX8_checkRoom_31 dX8_checkRoom_34 dX8_checkRoom_37
theorem v_low_fl {f : Nat → Nat} {s : Nat → Int32} : ∀ (m i : Nat), (∀ t, i ≤ t → t < i + m → s t = nI (f t) ∧ f t ≤ 2) → v_low s i m = (match s_fl f m i with | some t => nI t | none => -1)
  | 0, _, _ => rfl
  | m + 1, i, h => by
    have h1 := h i (Nat.le_refl _) (by omega)
    show (if s i = 0 then nI i else v_low s (i + 1) m) = (match (if f i = 0 then some i else s_fl f m (i + 1)) with | some t => nI t | none => -1)
    by_cases hz : f i = 0
    · rw [if_pos hz, if_pos (by rw [h1.1, hz]; rfl)]
    · have hn : ¬ (s i = 0) := fun e => hz ((nI_eq (by omega) (by decide : 0 < 2 ^ 31)).mp (h1.1.symm.trans e))
      rw [if_neg hz, if_neg hn, v_low_fl m (i + 1) (fun t h2 h3 => h t (by omega) (by omega))]
theorem s_fl_lt {f : Nat → Nat} : ∀ (m i t : Nat), s_fl f m i = some t → i ≤ t ∧ t < i + m
  | 0, _, _, h => by cases h
  | m + 1, i, t, h => by
    have h : (if f i = 0 then some i else s_fl f m (i + 1)) = some t := h
    by_cases hz : f i = 0
    · rw [if_pos hz] at h
      cases h
      omega
    · rw [if_neg hz] at h
      have := s_fl_lt m (i + 1) t h
      omega

set_option maxRecDepth 20000 in
set_option maxHeartbeats 1000000 in
theorem c8_free0 {l : Launch} {E : bz_E} {L : List Nat} {g : Nat → va_E} {o p q : Nat} {n er v0 v1 : Int32} {rp : PLR} {rS : SR} {σ : Si} {D : Pl} {s t : Nat} (hs : s < 2) (hd8 : D.2.2.2.2.2.1 ≤ 8) (h2 : ∀ t, t < 8 → (s_sd s σ).2.2.1.1 t ≤ 2) (hf : s_fl (s_sd s σ).2.2.1.1 D.2.2.2.2.2.1 0 = some t) (hr : s_srep rS σ) (hD : d_rep rp D) (hW : bz_W L g [(o, w_obj o p q n er v0 v1), (p, b_PL E p rp), (o + 27, b_Sit E (o + 27) rS)]) : bz_K l E mX8_findFreeTag 3 [.ref o, .int (nI s)] L g (fun r g1 => r = some (.int (nI t)) ∧ g1 = g) := by
  refine bz_K.of (by decide) (bz_le rfl) (fun sz => ?_)
  have hB := bz_B.rf hW
  show bz_G _ _ _ _ _ _ _ _ _ _ _ _ 0 [(0, .ref o), (1, .int (nI s))] []
  rcases (show s = 0 ∨ s = 1 by omega) with rfl | rfl
  · refine g_aload_n (q := 1) dX8_findFreeTag_0 rfl rfl ?_
    refine gb_getf (q := 4) (j := 0) (i := 0) dX8_findFreeTag_1 rfl fl_X8_33 hB rfl rfl rfl rfl ?_
    refine g_iload_n (q := 5) dX8_findFreeTag_4 rfl rfl ?_
    refine gb_callV (q := 8) (j := 2) (i := 0) dX8_findFreeTag_5 rfl kv_X8_119 (c_portOf0 (hB.1.at (j := 2) rfl)) rfl (by decide) hB rfl rfl rfl rfl (bz_le rfl) (by decide) (by decide) (fun r g1 hQ => ?_)
    obtain ⟨rfl, hg⟩ := hQ
    have hg := hg.symm
    subst hg
    refine gb_getf (q := 11) (j := 2) (i := 1) dX8_findFreeTag_8 rfl fl_X8_167 hB rfl rfl rfl rfl ?_
    refine g_aload_n (q := 12) dX8_findFreeTag_11 rfl rfl ?_
    refine gb_getf (q := 15) (j := 0) (i := 0) dX8_findFreeTag_12 rfl fl_X8_23 hB rfl rfl rfl rfl ?_
    refine gb_getf (q := 18) (j := 1) (i := 0) dX8_findFreeTag_15 rfl fl_X8_280 hB rfl rfl rfl rfl ?_
    refine g_eqi (v := nI (D.2.2.2.2.2.1)) (hD.2.2.2.2.2.1) ?_
    refine gb_callV (q := 21) (j := 2) (i := 8) dX8_findFreeTag_18 rfl kv_X8_292 (c_lowestFree (c := D.2.2.2.2.2.1) hd8 ((hB.1.at (j := 2) rfl).sub 8 rfl)) rfl (by decide) hB rfl rfl rfl rfl (bz_le rfl) (by decide) (by decide) (fun r g1 hQ => ?_)
    obtain ⟨rfl, hg⟩ := hQ
    have hg := hg.symm
    subst hg
    refine g_eqi (v := (match s_fl σ.2.1.2.2.1.1 D.2.2.2.2.2.1 0 with | some t => nI t | none => -1)) (v_low_fl _ _ (fun t _ ht => ⟨(hr.2.1.2.2.2.2.2.2.1.1 t (by omega)).1, h2 t (by omega)⟩)) ?_
    rw [show s_fl σ.2.1.2.2.1.1 D.2.2.2.2.2.1 0 = _ from hf]
    refine g_istore_n (q := 22) rfl dX8_findFreeTag_21 rfl (by decide) rfl ?_
    refine g_iload_n (q := 23) dX8_findFreeTag_22 rfl rfl ?_
    refine g_iconst (q := 24) (v := (-1)) dX8_findFreeTag_23 rfl (by decide) ?_
    refine g_icmp_ne (q := 27) (t := 38) dX8_findFreeTag_24 rfl (by decide) (fun _ => ?_) (fun c => absurd c (fun e => nI_ne_m1 (by have := (s_fl_lt _ _ _ hf).2; omega) e))
    refine g_iload_n (q := 39) dX8_findFreeTag_38 rfl rfl ?_
    exact g_iret dX8_findFreeTag_39 rfl (⟨rfl, rfl⟩)
  · refine g_aload_n (q := 1) dX8_findFreeTag_0 rfl rfl ?_
    refine gb_getf (q := 4) (j := 0) (i := 0) dX8_findFreeTag_1 rfl fl_X8_33 hB rfl rfl rfl rfl ?_
    refine g_iload_n (q := 5) dX8_findFreeTag_4 rfl rfl ?_
    refine gb_callV (q := 8) (j := 2) (i := 0) dX8_findFreeTag_5 rfl kv_X8_119 (c_portOf1 (hB.1.at (j := 2) rfl)) rfl (by decide) hB rfl rfl rfl rfl (bz_le rfl) (by decide) (by decide) (fun r g1 hQ => ?_)
    obtain ⟨rfl, hg⟩ := hQ
    have hg := hg.symm
    subst hg
    refine gb_getf (q := 11) (j := 2) (i := 14) dX8_findFreeTag_8 rfl fl_X8_167 hB rfl rfl rfl rfl ?_
    refine g_aload_n (q := 12) dX8_findFreeTag_11 rfl rfl ?_
    refine gb_getf (q := 15) (j := 0) (i := 0) dX8_findFreeTag_12 rfl fl_X8_23 hB rfl rfl rfl rfl ?_
    refine gb_getf (q := 18) (j := 1) (i := 0) dX8_findFreeTag_15 rfl fl_X8_280 hB rfl rfl rfl rfl ?_
    refine g_eqi (v := nI (D.2.2.2.2.2.1)) (hD.2.2.2.2.2.1) ?_
    refine gb_callV (q := 21) (j := 2) (i := 21) dX8_findFreeTag_18 rfl kv_X8_292 (c_lowestFree (c := D.2.2.2.2.2.1) hd8 ((hB.1.at (j := 2) rfl).sub 21 rfl)) rfl (by decide) hB rfl rfl rfl rfl (bz_le rfl) (by decide) (by decide) (fun r g1 hQ => ?_)
    obtain ⟨rfl, hg⟩ := hQ
    have hg := hg.symm
    subst hg
    refine g_eqi (v := (match s_fl σ.2.2.2.2.1.1 D.2.2.2.2.2.1 0 with | some t => nI t | none => -1)) (v_low_fl _ _ (fun t _ ht => ⟨(hr.2.2.2.2.2.2.2.2.1.1 t (by omega)).1, h2 t (by omega)⟩)) ?_
    rw [show s_fl σ.2.2.2.2.1.1 D.2.2.2.2.2.1 0 = _ from hf]
    refine g_istore_n (q := 22) rfl dX8_findFreeTag_21 rfl (by decide) rfl ?_
    refine g_iload_n (q := 23) dX8_findFreeTag_22 rfl rfl ?_
    refine g_iconst (q := 24) (v := (-1)) dX8_findFreeTag_23 rfl (by decide) ?_
    refine g_icmp_ne (q := 27) (t := 38) dX8_findFreeTag_24 rfl (by decide) (fun _ => ?_) (fun c => absurd c (fun e => nI_ne_m1 (by have := (s_fl_lt _ _ _ hf).2; omega) e))
    refine g_iload_n (q := 39) dX8_findFreeTag_38 rfl rfl ?_
    exact g_iret dX8_findFreeTag_39 rfl (⟨rfl, rfl⟩)
set_option maxRecDepth 20000 in
set_option maxHeartbeats 1000000 in
theorem c8_free1 {l : Launch} {E : bz_E} {L : List Nat} {g : Nat → va_E} {o p q : Nat} {n er v0 v1 : Int32} {rp : PLR} {rS : SR} {σ : Si} {D : Pl} {s : Nat} (hl : l.stackTraces = false) (hs : s < 2) (hd8 : D.2.2.2.2.2.1 ≤ 8) (h2 : ∀ t, t < 8 → (s_sd s σ).2.2.1.1 t ≤ 2) (hf : s_fl (s_sd s σ).2.2.1.1 D.2.2.2.2.2.1 0 = none) (hr : s_srep rS σ) (hD : d_rep rp D) (hW : bz_W L g [(o, w_obj o p q n er v0 v1), (p, b_PL E p rp), (o + 27, b_Sit E (o + 27) rS)]) : bz_KX l E mX8_findFreeTag 6 [.ref o, .int (nI s)] L g x_ISE := by
  refine bz_KX.of (by decide) (bz_le rfl) (fun sz => ?_)
  have hB := bz_B.rf hW
  show bz_G _ _ _ _ _ _ _ _ _ _ _ _ 0 [(0, .ref o), (1, .int (nI s))] []
  rcases (show s = 0 ∨ s = 1 by omega) with rfl | rfl
  · refine g_aload_n (q := 1) dX8_findFreeTag_0 rfl rfl ?_
    refine gb_getf (q := 4) (j := 0) (i := 0) dX8_findFreeTag_1 rfl fl_X8_33 hB rfl rfl rfl rfl ?_
    refine g_iload_n (q := 5) dX8_findFreeTag_4 rfl rfl ?_
    refine gb_callV (q := 8) (j := 2) (i := 0) dX8_findFreeTag_5 rfl kv_X8_119 (c_portOf0 (hB.1.at (j := 2) rfl)) rfl (by decide) hB rfl rfl rfl rfl (bz_le rfl) (by decide) (by decide) (fun r g1 hQ => ?_)
    obtain ⟨rfl, hg⟩ := hQ
    have hg := hg.symm
    subst hg
    refine gb_getf (q := 11) (j := 2) (i := 1) dX8_findFreeTag_8 rfl fl_X8_167 hB rfl rfl rfl rfl ?_
    refine g_aload_n (q := 12) dX8_findFreeTag_11 rfl rfl ?_
    refine gb_getf (q := 15) (j := 0) (i := 0) dX8_findFreeTag_12 rfl fl_X8_23 hB rfl rfl rfl rfl ?_
    refine gb_getf (q := 18) (j := 1) (i := 0) dX8_findFreeTag_15 rfl fl_X8_280 hB rfl rfl rfl rfl ?_
    refine g_eqi (v := nI (D.2.2.2.2.2.1)) (hD.2.2.2.2.2.1) ?_
    refine gb_callV (q := 21) (j := 2) (i := 8) dX8_findFreeTag_18 rfl kv_X8_292 (c_lowestFree (c := D.2.2.2.2.2.1) hd8 ((hB.1.at (j := 2) rfl).sub 8 rfl)) rfl (by decide) hB rfl rfl rfl rfl (bz_le rfl) (by decide) (by decide) (fun r g1 hQ => ?_)
    obtain ⟨rfl, hg⟩ := hQ
    have hg := hg.symm
    subst hg
    refine g_eqi (v := (match s_fl σ.2.1.2.2.1.1 D.2.2.2.2.2.1 0 with | some t => nI t | none => -1)) (v_low_fl _ _ (fun t _ ht => ⟨(hr.2.1.2.2.2.2.2.2.1.1 t (by omega)).1, h2 t (by omega)⟩)) ?_
    rw [show s_fl σ.2.1.2.2.1.1 D.2.2.2.2.2.1 0 = _ from hf]
    refine g_istore_n (q := 22) rfl dX8_findFreeTag_21 rfl (by decide) rfl ?_
    refine g_iload_n (q := 23) dX8_findFreeTag_22 rfl rfl ?_
    refine g_iconst (q := 24) (v := (-1)) dX8_findFreeTag_23 rfl (by decide) ?_
    refine g_icmp_ne (q := 27) (t := 38) dX8_findFreeTag_24 rfl (by decide) (fun c => absurd c (fun h => h rfl)) (fun _ => ?_)
    exact g_throwW (is := 295) (tx := "no free tag") (i := 22) hl rfl (by decide +kernel) (by decide) tx_ISE xk_ISE (by decide +kernel) (bz_le rfl) dX8_findFreeTag_27 dX8_findFreeTag_30 dX8_findFreeTag_31 dX8_findFreeTag_34 dX8_findFreeTag_37
  · refine g_aload_n (q := 1) dX8_findFreeTag_0 rfl rfl ?_
    refine gb_getf (q := 4) (j := 0) (i := 0) dX8_findFreeTag_1 rfl fl_X8_33 hB rfl rfl rfl rfl ?_
    refine g_iload_n (q := 5) dX8_findFreeTag_4 rfl rfl ?_
    refine gb_callV (q := 8) (j := 2) (i := 0) dX8_findFreeTag_5 rfl kv_X8_119 (c_portOf1 (hB.1.at (j := 2) rfl)) rfl (by decide) hB rfl rfl rfl rfl (bz_le rfl) (by decide) (by decide) (fun r g1 hQ => ?_)
    obtain ⟨rfl, hg⟩ := hQ
    have hg := hg.symm
    subst hg
    refine gb_getf (q := 11) (j := 2) (i := 14) dX8_findFreeTag_8 rfl fl_X8_167 hB rfl rfl rfl rfl ?_
    refine g_aload_n (q := 12) dX8_findFreeTag_11 rfl rfl ?_
    refine gb_getf (q := 15) (j := 0) (i := 0) dX8_findFreeTag_12 rfl fl_X8_23 hB rfl rfl rfl rfl ?_
    refine gb_getf (q := 18) (j := 1) (i := 0) dX8_findFreeTag_15 rfl fl_X8_280 hB rfl rfl rfl rfl ?_
    refine g_eqi (v := nI (D.2.2.2.2.2.1)) (hD.2.2.2.2.2.1) ?_
    refine gb_callV (q := 21) (j := 2) (i := 21) dX8_findFreeTag_18 rfl kv_X8_292 (c_lowestFree (c := D.2.2.2.2.2.1) hd8 ((hB.1.at (j := 2) rfl).sub 21 rfl)) rfl (by decide) hB rfl rfl rfl rfl (bz_le rfl) (by decide) (by decide) (fun r g1 hQ => ?_)
    obtain ⟨rfl, hg⟩ := hQ
    have hg := hg.symm
    subst hg
    refine g_eqi (v := (match s_fl σ.2.2.2.2.1.1 D.2.2.2.2.2.1 0 with | some t => nI t | none => -1)) (v_low_fl _ _ (fun t _ ht => ⟨(hr.2.2.2.2.2.2.2.2.1.1 t (by omega)).1, h2 t (by omega)⟩)) ?_
    rw [show s_fl σ.2.2.2.2.1.1 D.2.2.2.2.2.1 0 = _ from hf]
    refine g_istore_n (q := 22) rfl dX8_findFreeTag_21 rfl (by decide) rfl ?_
    refine g_iload_n (q := 23) dX8_findFreeTag_22 rfl rfl ?_
    refine g_iconst (q := 24) (v := (-1)) dX8_findFreeTag_23 rfl (by decide) ?_
    refine g_icmp_ne (q := 27) (t := 38) dX8_findFreeTag_24 rfl (by decide) (fun c => absurd c (fun h => h rfl)) (fun _ => ?_)
    exact g_throwW (is := 295) (tx := "no free tag") (i := 22) hl rfl (by decide +kernel) (by decide) tx_ISE xk_ISE (by decide +kernel) (bz_le rfl) dX8_findFreeTag_27 dX8_findFreeTag_30 dX8_findFreeTag_31 dX8_findFreeTag_34 dX8_findFreeTag_37
