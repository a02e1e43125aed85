/-! the class: checks -/
theorem m_badF {v : Int32} {m : Nat} (hm : m < 2 ^ 31) (h0 : ¬ v < 0) (h1 : v < nI m) : m_bad v m = false := by
  cases e : m_bad v m with
  | false => rfl
  | true =>
    exfalso
    unfold m_bad at e
    rcases of_decide_eq_true e with h | h
    · exact h0 h
    · rcases Nat.eq_zero_or_pos m with rfl | hp
      · exact h0 h1
      · rw [show nI m - nI 1 = nI (m - 1) from bz_subI (by omega)] at h
        rw [Int32.lt_iff_toInt_lt] at h h1 h0
        rw [nI_toInt (by omega)] at h h1
        omega
theorem m_badC {v : Int32} {m : Nat} (hm : m < 2 ^ 31) (h : m_bad v m = true) (h0 : ¬ v < 0) (h1 : v < nI m) : False := by
  rw [m_badF hm h0 h1] at h
  cases h

set_option maxRecDepth 20000 in
set_option maxHeartbeats 1000000 in
theorem c8_checkSide0 {l : Launch} {E : bz_E} {L : List Nat} {g : Nat → va_E} {s : Nat} (hs : s < 2) : bz_K l E mX8_checkSide 0 [.int (nI s)] L g (fun r g1 => r = none ∧ g1 = g) := by
  refine bz_K.of (by decide) (bz_le rfl) (fun sz => ?_)
  show bz_G _ _ _ _ _ _ _ _ _ _ _ _ 0 [(0, .int (nI s))] []
  refine g_iload_n (q := 1) dX8_checkSide_0 rfl rfl ?_
  refine g_ifN_lt (q := 4) (t := 9) dX8_checkSide_1 rfl (by decide) (by omega) ?_
  refine g_iload_n (q := 5) dX8_checkSide_4 rfl rfl ?_
  refine g_iconst (q := 6) (v := (nI 2)) dX8_checkSide_5 rfl (by decide) ?_
  refine g_icmpN_lt (q := 9) (t := 20) dX8_checkSide_6 rfl (by decide) (by omega) (by omega) (fun _ => ?_) (fun c => absurd c (by omega))
  exact g_vret dX8_checkSide_20 rfl (⟨rfl, rfl⟩)
set_option maxRecDepth 20000 in
set_option maxHeartbeats 1000000 in
theorem c8_checkSide1 {l : Launch} {E : bz_E} {L : List Nat} {g : Nat → va_E} {v : Int32} (hl : l.stackTraces = false) (hb : m_bad v 2 = true) : bz_KX l E mX8_checkSide 6 [.int v] L g x_IOE := by
  refine bz_KX.of (by decide) (bz_le rfl) (fun sz => ?_)
  show bz_G _ _ _ _ _ _ _ _ _ _ _ _ 0 [(0, .int v)] []
  refine g_iload_n (q := 1) dX8_checkSide_0 rfl rfl ?_
  refine g_if_lt (q := 4) (t := 9) dX8_checkSide_1 rfl (by decide) (fun c_1 => ?_) (fun c_1 => ?_)
  · exact g_throwW (is := 272) (tx := "no such side") (i := 13) hl rfl (by decide +kernel) (by decide) tx_IOE xk_IOE (by decide +kernel) (bz_le rfl) dX8_checkSide_9 dX8_checkSide_12 dX8_checkSide_13 dX8_checkSide_16 dX8_checkSide_19
  · refine g_iload_n (q := 5) dX8_checkSide_4 rfl rfl ?_
    refine g_iconst (q := 6) (v := (nI 2)) dX8_checkSide_5 rfl (by decide) ?_
    refine g_icmp_lt (q := 9) (t := 20) dX8_checkSide_6 rfl (by decide) (fun c_6 => ?_) (fun c_6 => ?_)
    · exact (m_badC (by decide) hb c_1 c_6).elim
    · exact g_throwW (is := 272) (tx := "no such side") (i := 13) hl rfl (by decide +kernel) (by decide) tx_IOE xk_IOE (by decide +kernel) (bz_le rfl) dX8_checkSide_9 dX8_checkSide_12 dX8_checkSide_13 dX8_checkSide_16 dX8_checkSide_19
set_option maxRecDepth 20000 in
set_option maxHeartbeats 1000000 in
theorem c8_checkKind0 {l : Launch} {E : bz_E} {L : List Nat} {g : Nat → va_E} {s : Nat} (hs : s < 4) : bz_K l E mX8_checkKind 0 [.int (nI s)] L g (fun r g1 => r = none ∧ g1 = g) := by
  refine bz_K.of (by decide) (bz_le rfl) (fun sz => ?_)
  show bz_G _ _ _ _ _ _ _ _ _ _ _ _ 0 [(0, .int (nI s))] []
  refine g_iload_n (q := 1) dX8_checkKind_0 rfl rfl ?_
  refine g_ifN_lt (q := 4) (t := 9) dX8_checkKind_1 rfl (by decide) (by omega) ?_
  refine g_iload_n (q := 5) dX8_checkKind_4 rfl rfl ?_
  refine g_iconst (q := 6) (v := (nI 4)) dX8_checkKind_5 rfl (by decide) ?_
  refine g_icmpN_lt (q := 9) (t := 20) dX8_checkKind_6 rfl (by decide) (by omega) (by omega) (fun _ => ?_) (fun c => absurd c (by omega))
  exact g_vret dX8_checkKind_20 rfl (⟨rfl, rfl⟩)
set_option maxRecDepth 20000 in
set_option maxHeartbeats 1000000 in
theorem c8_checkKind1 {l : Launch} {E : bz_E} {L : List Nat} {g : Nat → va_E} {v : Int32} (hl : l.stackTraces = false) (hb : m_bad v 4 = true) : bz_KX l E mX8_checkKind 6 [.int v] L g x_IOE := by
  refine bz_KX.of (by decide) (bz_le rfl) (fun sz => ?_)
  show bz_G _ _ _ _ _ _ _ _ _ _ _ _ 0 [(0, .int v)] []
  refine g_iload_n (q := 1) dX8_checkKind_0 rfl rfl ?_
  refine g_if_lt (q := 4) (t := 9) dX8_checkKind_1 rfl (by decide) (fun c_1 => ?_) (fun c_1 => ?_)
  · exact g_throwW (is := 274) (tx := "no such kind") (i := 12) hl rfl (by decide +kernel) (by decide) tx_IOE xk_IOE (by decide +kernel) (bz_le rfl) dX8_checkKind_9 dX8_checkKind_12 dX8_checkKind_13 dX8_checkKind_16 dX8_checkKind_19
  · refine g_iload_n (q := 5) dX8_checkKind_4 rfl rfl ?_
    refine g_iconst (q := 6) (v := (nI 4)) dX8_checkKind_5 rfl (by decide) ?_
    refine g_icmp_lt (q := 9) (t := 20) dX8_checkKind_6 rfl (by decide) (fun c_6 => ?_) (fun c_6 => ?_)
    · exact (m_badC (by decide) hb c_1 c_6).elim
    · exact g_throwW (is := 274) (tx := "no such kind") (i := 12) hl rfl (by decide +kernel) (by decide) tx_IOE xk_IOE (by decide +kernel) (bz_le rfl) dX8_checkKind_9 dX8_checkKind_12 dX8_checkKind_13 dX8_checkKind_16 dX8_checkKind_19
set_option maxRecDepth 20000 in
set_option maxHeartbeats 1000000 in
theorem c8_checkSlot0 {l : Launch} {E : bz_E} {L : List Nat} {g : Nat → va_E} {s : Nat} (hs : s < 2) : bz_K l E mX8_checkSlot 0 [.int (nI s)] L g (fun r g1 => r = none ∧ g1 = g) := by
  refine bz_K.of (by decide) (bz_le rfl) (fun sz => ?_)
  show bz_G _ _ _ _ _ _ _ _ _ _ _ _ 0 [(0, .int (nI s))] []
  refine g_iload_n (q := 1) dX8_checkSlot_0 rfl rfl ?_
  refine g_ifN_lt (q := 4) (t := 9) dX8_checkSlot_1 rfl (by decide) (by omega) ?_
  refine g_iload_n (q := 5) dX8_checkSlot_4 rfl rfl ?_
  refine g_iconst (q := 6) (v := (nI 2)) dX8_checkSlot_5 rfl (by decide) ?_
  refine g_icmpN_lt (q := 9) (t := 20) dX8_checkSlot_6 rfl (by decide) (by omega) (by omega) (fun _ => ?_) (fun c => absurd c (by omega))
  exact g_vret dX8_checkSlot_20 rfl (⟨rfl, rfl⟩)
set_option maxRecDepth 20000 in
set_option maxHeartbeats 1000000 in
theorem c8_checkSlot1 {l : Launch} {E : bz_E} {L : List Nat} {g : Nat → va_E} {v : Int32} (hl : l.stackTraces = false) (hb : m_bad v 2 = true) : bz_KX l E mX8_checkSlot 6 [.int v] L g x_IOE := by
  refine bz_KX.of (by decide) (bz_le rfl) (fun sz => ?_)
  show bz_G _ _ _ _ _ _ _ _ _ _ _ _ 0 [(0, .int v)] []
  refine g_iload_n (q := 1) dX8_checkSlot_0 rfl rfl ?_
  refine g_if_lt (q := 4) (t := 9) dX8_checkSlot_1 rfl (by decide) (fun c_1 => ?_) (fun c_1 => ?_)
  · exact g_throwW (is := 276) (tx := "no such slot") (i := 24) hl rfl (by decide +kernel) (by decide) tx_IOE xk_IOE (by decide +kernel) (bz_le rfl) dX8_checkSlot_9 dX8_checkSlot_12 dX8_checkSlot_13 dX8_checkSlot_16 dX8_checkSlot_19
  · refine g_iload_n (q := 5) dX8_checkSlot_4 rfl rfl ?_
    refine g_iconst (q := 6) (v := (nI 2)) dX8_checkSlot_5 rfl (by decide) ?_
    refine g_icmp_lt (q := 9) (t := 20) dX8_checkSlot_6 rfl (by decide) (fun c_6 => ?_) (fun c_6 => ?_)
    · exact (m_badC (by decide) hb c_1 c_6).elim
    · exact g_throwW (is := 276) (tx := "no such slot") (i := 24) hl rfl (by decide +kernel) (by decide) tx_IOE xk_IOE (by decide +kernel) (bz_le rfl) dX8_checkSlot_9 dX8_checkSlot_12 dX8_checkSlot_13 dX8_checkSlot_16 dX8_checkSlot_19
