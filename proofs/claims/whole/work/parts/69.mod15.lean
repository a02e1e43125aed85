/-! the reference: keeps, undo, snapshots -/
def s_kp (hs : List Si) (σ : Si) : List Si := (if hs.length = 10 then hs.tail else hs) ++ [σ]
theorem m_un_app {U N V : Nat → Int32} {hs : List Si} {σ : Si} (h : m_un U hs) (hσ : m_st N σ) (ha : ∀ j, j < 2075 * hs.length → V j = U j) (hb : ∀ j, j < 2075 → V (2075 * hs.length + j) = N j) : m_un V (hs ++ [σ]) := by
  intro i τ hi
  by_cases c : i < hs.length
  · rw [List.getElem?_append_left c] at hi
    exact m_st_fr (h i τ hi) (fun j hj => ha _ (by omega))
  · rw [List.getElem?_append_right (by omega)] at hi
    have hz : i - hs.length = 0 := by
      have := (List.getElem?_eq_some_iff.mp hi).1
      simp at this; omega
    rw [hz] at hi
    have e : σ = τ := by simpa using hi
    subst e
    rw [show i = hs.length by omega]
    exact m_st_fr hσ hb
theorem m_un_tl {U V : Nat → Int32} {hs : List Si} (h : m_un U hs) (ha : ∀ j, j < 2075 * (hs.length - 1) → V j = U (2075 + j)) : m_un V hs.tail := by
  intro i τ hi
  rw [List.getElem?_tail] at hi
  have hl := (List.getElem?_eq_some_iff.mp hi).1
  refine m_st_fr (h (i + 1) τ hi) (fun j hj => ?_)
  show V (2075 * i + j) = U (2075 * (i + 1) + j)
  rw [ha _ (by omega)]
  congr 1; omega
theorem m_un_pr {U : Nat → Int32} {hs : List Si} {σ : Si} (h : m_un U (hs ++ [σ])) : m_un U hs := fun i τ hi => h i τ (by rw [List.getElem?_append_left (List.getElem?_eq_some_iff.mp hi).1]; exact hi)
theorem m_un_la {U : Nat → Int32} {hs : List Si} {σ : Si} (h : m_un U (hs ++ [σ])) : m_st (fun j => U (2075 * hs.length + j)) σ := h hs.length σ (by rw [List.getElem?_append_right (Nat.le_refl _)]; simp)

set_option maxRecDepth 20000 in
set_option maxHeartbeats 1000000 in
theorem c_mkeeps {l : Launch} {E : bz_E} {L : List Nat} {g : Nat → va_E} {o : Nat} {I : Nat → Int32} {A : Nat → Nat → Int32} {hs : List Si} {σ : Si} (hun : m_un (A 13) hs) (hl : I 27 = nI hs.length) (h10 : hs.length ≤ 10) (hst : m_st (A 1) σ) (hH : bz_H L g o (b_Mod E o I A)) : bz_K l E mX9_keeps 1 [.ref o] L g (fun r g1 => r = none ∧ ∃ U : Nat → Int32, bz_B L g g1 [(o, b_Mod E o (va_up I 27 (nI (s_kp hs σ).length)) (va_up A 13 U))] ∧ m_un U (s_kp hs σ)) := by
  refine bz_K.of (by decide) (bz_le rfl) (fun sz => ?_)
  show bz_G _ _ _ _ _ _ _ _ _ _ _ _ 0 [(0, .ref o)] []
  have hB := bz_B.rf (bz_W.one hH)
  by_cases c : hs.length = 10
  · have hle : hs.tail.length = 9 := by rw [List.length_tail, c]
    have hk10 : (s_kp hs σ).length = 9 + 1 := by unfold s_kp; rw [if_pos c, List.length_append, hle]; rfl
    refine g_aload_n (q := 1) dX9_keeps_0 rfl rfl ?_
    refine gb_getf (q := 4) (j := 0) (i := 0) dX9_keeps_1 rfl fl_X9_217 hB rfl rfl rfl rfl ?_
    refine g_eqi (v := nI (10)) (hl.trans (by rw [c])) ?_
    refine g_bipush (q := 6) (v := (nI 10)) dX9_keeps_4 rfl (by decide) ?_
    refine g_icmpN_ne (q := 9) (t := 42) dX9_keeps_6 rfl (by decide) (by omega) (by omega) (fun c => absurd c (by omega)) (fun _ => ?_)
    refine g_aload_n (q := 10) dX9_keeps_9 rfl rfl ?_
    refine g_dup (q := 11) dX9_keeps_10 rfl rfl ?_
    refine gb_getf (q := 14) (j := 0) (i := 0) dX9_keeps_11 rfl fl_X9_217 hB rfl rfl rfl rfl ?_
    refine g_eqi (v := nI (10)) (hl.trans (by rw [c])) ?_
    refine g_iconst (q := 15) (v := (nI 1)) dX9_keeps_14 rfl (by decide) ?_
    refine g_isubN (q := 16) dX9_keeps_15 rfl (by decide) ?_
    refine gb_putf (q := 19) (j := 0) (i := 0) dX9_keeps_16 rfl fp_X9_217 hB rfl rfl rfl (bz_le rfl) rfl rfl (fun g hB => ?_)
    refine g_aload_n (q := 20) dX9_keeps_19 rfl rfl ?_
    refine gb_getf (q := 23) (j := 0) (i := 0) dX9_keeps_20 rfl fl_X9_51 hB rfl rfl rfl rfl ?_
    refine g_sipush (q := 26) (v := (nI 2075)) dX9_keeps_23 rfl (by decide) ?_
    refine g_aload_n (q := 27) dX9_keeps_26 rfl rfl ?_
    refine gb_getf (q := 30) (j := 0) (i := 0) dX9_keeps_27 rfl fl_X9_51 hB rfl rfl rfl rfl ?_
    refine g_iconst (q := 31) (v := (nI 0)) dX9_keeps_30 rfl (by decide) ?_
    refine g_sipush (q := 34) (v := (nI 2075)) dX9_keeps_31 rfl (by decide) ?_
    refine g_aload_n (q := 35) dX9_keeps_34 rfl rfl ?_
    refine gb_getf (q := 38) (j := 0) (i := 0) dX9_keeps_35 rfl fl_X9_217 hB rfl rfl rfl rfl ?_
    refine g_eqi (v := nI (9)) (rfl) ?_
    refine g_imulN (q := 39) dX9_keeps_38 rfl ?_
    refine g_callS (q := 42) dX9_keeps_39 rfl ks_X9_305 rfl (c_copies1 (q := o + 13) (n2 := 20750) (h := A 13) (a := 2075) (b := 0) (n := 2075 * 9) ((hB.1.at (j := 0) rfl).sub 13 rfl) (by omega) (by omega) (by decide)) (by decide) rfl (bz_le rfl) (by decide) (by decide) (fun r g1 hQ => ?_)
    obtain ⟨rfl, h1⟩ := hQ
    have hB := hB.sp (j := 0) rfl 13 rfl h1 (bz_le rfl)
    refine g_aload_n (q := 43) dX9_keeps_42 rfl rfl ?_
    refine gb_getf (q := 46) (j := 0) (i := 0) dX9_keeps_43 rfl fl_X9_7 hB rfl rfl rfl rfl ?_
    refine g_iconst (q := 47) (v := (nI 0)) dX9_keeps_46 rfl (by decide) ?_
    refine g_aload_n (q := 48) dX9_keeps_47 rfl rfl ?_
    refine gb_getf (q := 51) (j := 0) (i := 0) dX9_keeps_48 rfl fl_X9_51 hB rfl rfl rfl rfl ?_
    refine g_sipush (q := 54) (v := (nI 2075)) dX9_keeps_51 rfl (by decide) ?_
    refine g_aload_n (q := 55) dX9_keeps_54 rfl rfl ?_
    refine gb_getf (q := 58) (j := 0) (i := 0) dX9_keeps_55 rfl fl_X9_217 hB rfl rfl rfl rfl ?_
    refine g_eqi (v := nI (9)) (rfl) ?_
    refine g_imulN (q := 59) dX9_keeps_58 rfl ?_
    refine g_sipush (q := 62) (v := (nI 2075)) dX9_keeps_59 rfl (by decide) ?_
    refine g_callS (q := 65) dX9_keeps_62 rfl ks_X9_305 rfl (c_copies0 (p := o + 1) (q := o + 13) (n1 := 2075) (n2 := 20750) (f := A 1) (h := (va_cpy (A 13) (A 13) 2075 0 (2075 * 9))) (a := 0) (b := 2075 * 9) (n := 2075) ((hB.1.at (j := 0) rfl).sub 1 rfl) ((hB.1.at (j := 0) rfl).sub 13 rfl) (by omega) (by omega) (by omega) (by decide) (by decide)) (by decide) rfl (bz_le rfl) (by decide) (by decide) (fun r g1 hQ => ?_)
    obtain ⟨rfl, h1⟩ := hQ
    have hB := hB.sp (j := 0) rfl 13 rfl h1 (bz_le rfl)
    refine g_aload_n (q := 66) dX9_keeps_65 rfl rfl ?_
    refine g_dup (q := 67) dX9_keeps_66 rfl rfl ?_
    refine gb_getf (q := 70) (j := 0) (i := 0) dX9_keeps_67 rfl fl_X9_217 hB rfl rfl rfl rfl ?_
    refine g_eqi (v := nI (9)) (rfl) ?_
    refine g_iconst (q := 71) (v := (nI 1)) dX9_keeps_70 rfl (by decide) ?_
    refine g_iaddN (q := 72) dX9_keeps_71 rfl ?_
    refine gb_putf (q := 75) (j := 0) (i := 0) dX9_keeps_72 rfl fp_X9_217 hB rfl rfl rfl (bz_le rfl) rfl rfl (fun g hB => ?_)
    exact g_vret dX9_keeps_75 rfl (⟨rfl, (va_cpy (A 1) (va_cpy (A 13) (A 13) 2075 0 (2075 * 9)) 0 (2075 * 9) 2075), by rw [hk10]; exact hB, by unfold s_kp; rw [if_pos c]; exact m_un_app (m_un_tl hun (fun j hj => by have h9 := va_cpyin (f := A 13) (h := A 13) (a := 2075) (b := 0) (n := 2075 * 9) (j := j) (by omega); rw [Nat.zero_add] at h9; exact h9)) hst (fun j hj => va_cpyout (by rw [hle] at hj; omega)) (fun j hj => by rw [hle]; exact (va_cpyin hj).trans (by rw [Nat.zero_add]))⟩)
  · have hkl : (s_kp hs σ).length = hs.length + 1 := by unfold s_kp; rw [if_neg c, List.length_append]; rfl
    refine g_aload_n (q := 1) dX9_keeps_0 rfl rfl ?_
    refine gb_getf (q := 4) (j := 0) (i := 0) dX9_keeps_1 rfl fl_X9_217 hB rfl rfl rfl rfl ?_
    refine g_eqi (v := nI (hs.length)) (hl) ?_
    refine g_bipush (q := 6) (v := (nI 10)) dX9_keeps_4 rfl (by decide) ?_
    refine g_icmpN_ne (q := 9) (t := 42) dX9_keeps_6 rfl (by decide) (by omega) (by omega) (fun _ => ?_) (fun c => absurd c (by omega))
    refine g_aload_n (q := 43) dX9_keeps_42 rfl rfl ?_
    refine gb_getf (q := 46) (j := 0) (i := 0) dX9_keeps_43 rfl fl_X9_7 hB rfl rfl rfl rfl ?_
    refine g_iconst (q := 47) (v := (nI 0)) dX9_keeps_46 rfl (by decide) ?_
    refine g_aload_n (q := 48) dX9_keeps_47 rfl rfl ?_
    refine gb_getf (q := 51) (j := 0) (i := 0) dX9_keeps_48 rfl fl_X9_51 hB rfl rfl rfl rfl ?_
    refine g_sipush (q := 54) (v := (nI 2075)) dX9_keeps_51 rfl (by decide) ?_
    refine g_aload_n (q := 55) dX9_keeps_54 rfl rfl ?_
    refine gb_getf (q := 58) (j := 0) (i := 0) dX9_keeps_55 rfl fl_X9_217 hB rfl rfl rfl rfl ?_
    refine g_eqi (v := nI (hs.length)) (hl) ?_
    refine g_imulN (q := 59) dX9_keeps_58 rfl ?_
    refine g_sipush (q := 62) (v := (nI 2075)) dX9_keeps_59 rfl (by decide) ?_
    refine g_callS (q := 65) dX9_keeps_62 rfl ks_X9_305 rfl (c_copies0 (p := o + 1) (q := o + 13) (n1 := 2075) (n2 := 20750) (f := A 1) (h := A 13) (a := 0) (b := 2075 * hs.length) (n := 2075) ((hB.1.at (j := 0) rfl).sub 1 rfl) ((hB.1.at (j := 0) rfl).sub 13 rfl) (by omega) (by omega) (by omega) (by decide) (by decide)) (by decide) rfl (bz_le rfl) (by decide) (by decide) (fun r g1 hQ => ?_)
    obtain ⟨rfl, h1⟩ := hQ
    have hB := hB.sp (j := 0) rfl 13 rfl h1 (bz_le rfl)
    refine g_aload_n (q := 66) dX9_keeps_65 rfl rfl ?_
    refine g_dup (q := 67) dX9_keeps_66 rfl rfl ?_
    refine gb_getf (q := 70) (j := 0) (i := 0) dX9_keeps_67 rfl fl_X9_217 hB rfl rfl rfl rfl ?_
    refine g_eqi (v := nI (hs.length)) (hl) ?_
    refine g_iconst (q := 71) (v := (nI 1)) dX9_keeps_70 rfl (by decide) ?_
    refine g_iaddN (q := 72) dX9_keeps_71 rfl ?_
    refine gb_putf (q := 75) (j := 0) (i := 0) dX9_keeps_72 rfl fp_X9_217 hB rfl rfl rfl (bz_le rfl) rfl rfl (fun g hB => ?_)
    exact g_vret dX9_keeps_75 rfl (⟨rfl, (va_cpy (A 1) (A 13) 0 (2075 * hs.length) 2075), by rw [hkl]; exact hB, by unfold s_kp; rw [if_neg c]; exact m_un_app hun hst (fun j hj => va_cpyout (by omega)) (fun j hj => (va_cpyin hj).trans (by rw [Nat.zero_add]))⟩)
set_option maxRecDepth 20000 in
set_option maxHeartbeats 1000000 in
theorem c_mundo1 {l : Launch} {E : bz_E} {L : List Nat} {g : Nat → va_E} {o : Nat} {I : Nat → Int32} {A : Nat → Nat → Int32} (hl : I 27 = nI 0) (hH : bz_H L g o (b_Mod E o I A)) : bz_K l E mX9_undo 1 [.ref o] L g (fun r g1 => r = some (.int (-1)) ∧ bz_B L g g1 [(o, b_Mod E o (va_up I 0 (nI 0)) A)]) := by
  refine bz_K.of (by decide) (bz_le rfl) (fun sz => ?_)
  have hB := bz_B.rf (bz_W.one hH)
  show bz_G _ _ _ _ _ _ _ _ _ _ _ _ 0 [(0, .ref o)] []
  refine g_aload_n (q := 1) dX9_undo_0 rfl rfl ?_
  refine g_iconst (q := 2) (v := (nI 0)) dX9_undo_1 rfl (by decide) ?_
  refine gb_putf (q := 5) (j := 0) (i := 0) dX9_undo_2 rfl fp_X9_70 hB rfl rfl rfl (bz_le rfl) rfl rfl (fun g hB => ?_)
  refine g_aload_n (q := 6) dX9_undo_5 rfl rfl ?_
  refine gb_getf (q := 9) (j := 0) (i := 0) dX9_undo_6 rfl fl_X9_217 hB rfl rfl rfl rfl ?_
  refine g_eqi (v := nI (0)) (hl) ?_
  refine g_ifN_ne (q := 12) (t := 14) dX9_undo_9 rfl (by decide) (by omega) (fun c => absurd c (by omega)) (fun _ => ?_)
  refine g_iconst (q := 13) (v := (-1)) dX9_undo_12 rfl (by decide) ?_
  exact g_iret dX9_undo_13 rfl (⟨rfl, hB⟩)
set_option maxRecDepth 20000 in
set_option maxHeartbeats 1000000 in
theorem c_mundo0 {l : Launch} {E : bz_E} {L : List Nat} {g : Nat → va_E} {o : Nat} {I : Nat → Int32} {A : Nat → Nat → Int32} {hs : List Si} {σ : Si} (hun : m_un (A 13) (hs ++ [σ])) (hl : I 27 = nI (hs.length + 1)) (h10 : hs.length + 1 ≤ 10) (hH : bz_H L g o (b_Mod E o I A)) : bz_K l E mX9_undo 1 [.ref o] L g (fun r g1 => r = some (.int (nI hs.length)) ∧ ∃ N : Nat → Int32, bz_B L g g1 [(o, b_Mod E o (va_up (va_up I 0 (nI 0)) 27 (nI hs.length)) (va_up A 1 N))] ∧ m_st N σ) := by
  refine bz_K.of (by decide) (bz_le rfl) (fun sz => ?_)
  have hB := bz_B.rf (bz_W.one hH)
  show bz_G _ _ _ _ _ _ _ _ _ _ _ _ 0 [(0, .ref o)] []
  refine g_aload_n (q := 1) dX9_undo_0 rfl rfl ?_
  refine g_iconst (q := 2) (v := (nI 0)) dX9_undo_1 rfl (by decide) ?_
  refine gb_putf (q := 5) (j := 0) (i := 0) dX9_undo_2 rfl fp_X9_70 hB rfl rfl rfl (bz_le rfl) rfl rfl (fun g hB => ?_)
  refine g_aload_n (q := 6) dX9_undo_5 rfl rfl ?_
  refine gb_getf (q := 9) (j := 0) (i := 0) dX9_undo_6 rfl fl_X9_217 hB rfl rfl rfl rfl ?_
  refine g_eqi (v := nI (hs.length + 1)) (hl) ?_
  refine g_ifN_ne (q := 12) (t := 14) dX9_undo_9 rfl (by decide) (by omega) (fun _ => ?_) (fun c => absurd c (by omega))
  refine g_aload_n (q := 15) dX9_undo_14 rfl rfl ?_
  refine g_dup (q := 16) dX9_undo_15 rfl rfl ?_
  refine gb_getf (q := 19) (j := 0) (i := 0) dX9_undo_16 rfl fl_X9_217 hB rfl rfl rfl rfl ?_
  refine g_eqi (v := nI (hs.length + 1)) (hl) ?_
  refine g_iconst (q := 20) (v := (nI 1)) dX9_undo_19 rfl (by decide) ?_
  refine g_isubN (q := 21) dX9_undo_20 rfl (by omega) ?_
  refine gb_putf (q := 24) (j := 0) (i := 0) dX9_undo_21 rfl fp_X9_217 hB rfl rfl rfl (bz_le rfl) rfl rfl (fun g hB => ?_)
  refine g_aload_n (q := 25) dX9_undo_24 rfl rfl ?_
  refine gb_getf (q := 28) (j := 0) (i := 0) dX9_undo_25 rfl fl_X9_51 hB rfl rfl rfl rfl ?_
  refine g_sipush (q := 31) (v := (nI 2075)) dX9_undo_28 rfl (by decide) ?_
  refine g_aload_n (q := 32) dX9_undo_31 rfl rfl ?_
  refine gb_getf (q := 35) (j := 0) (i := 0) dX9_undo_32 rfl fl_X9_217 hB rfl rfl rfl rfl ?_
  refine g_eqi (v := nI (hs.length)) (rfl) ?_
  refine g_imulN (q := 36) dX9_undo_35 rfl ?_
  refine g_aload_n (q := 37) dX9_undo_36 rfl rfl ?_
  refine gb_getf (q := 40) (j := 0) (i := 0) dX9_undo_37 rfl fl_X9_7 hB rfl rfl rfl rfl ?_
  refine g_iconst (q := 41) (v := (nI 0)) dX9_undo_40 rfl (by decide) ?_
  refine g_sipush (q := 44) (v := (nI 2075)) dX9_undo_41 rfl (by decide) ?_
  refine g_callS (q := 47) dX9_undo_44 rfl ks_X9_305 rfl (c_copies0 (p := o + 13) (q := o + 1) (n1 := 20750) (n2 := 2075) (f := A 13) (h := A 1) (a := 2075 * hs.length) (b := 0) (n := 2075) ((hB.1.at (j := 0) rfl).sub 13 rfl) ((hB.1.at (j := 0) rfl).sub 1 rfl) (by omega) (by omega) (by omega) (by decide) (by decide)) (by decide) rfl (bz_le rfl) (by decide) (by decide) (fun r g1 hQ => ?_)
  obtain ⟨rfl, h1⟩ := hQ
  have hB := hB.sp (j := 0) rfl 1 rfl h1 (bz_le rfl)
  refine g_aload_n (q := 48) dX9_undo_47 rfl rfl ?_
  refine gb_getf (q := 51) (j := 0) (i := 0) dX9_undo_48 rfl fl_X9_217 hB rfl rfl rfl rfl ?_
  refine g_eqi (v := nI (hs.length)) (rfl) ?_
  exact g_iret dX9_undo_51 rfl (⟨rfl, _, hB, m_st_fr (m_un_la hun) (fun j hj => by have := va_cpyin (f := A 13) (h := A 1) (a := 2075 * hs.length) (b := 0) hj; rw [Nat.zero_add] at this; exact this)⟩)
set_option maxRecDepth 20000 in
set_option maxHeartbeats 1000000 in
theorem c_mnoSlot1 {l : Launch} {E : bz_E} {L : List Nat} {g : Nat → va_E} {o : Nat} {I : Nat → Int32} {A : Nat → Nat → Int32} {v : Int32} (hb : m_bad v 2 = true) (hH : bz_H L g o (b_Mod E o I A)) : bz_K l E mX9_noSlot 2 [.ref o, .int v] L g (fun r g1 => r = some (.int (nI 1)) ∧ bz_B L g g1 [(o, b_Mod E o (va_up I 0 (nI 1)) A)]) := by
  refine bz_K.of (by decide) (bz_le rfl) (fun sz => ?_)
  have hB := bz_B.rf (bz_W.one hH)
  show bz_G _ _ _ _ _ _ _ _ _ _ _ _ 0 [(0, .ref o), (1, .int v)] []
  refine g_aload_n (q := 1) dX9_noSlot_0 rfl rfl ?_
  refine g_iconst (q := 2) (v := (nI 0)) dX9_noSlot_1 rfl (by decide) ?_
  refine gb_putf (q := 5) (j := 0) (i := 0) dX9_noSlot_2 rfl fp_X9_70 hB rfl rfl rfl (bz_le rfl) rfl rfl (fun g hB => ?_)
  refine g_aload_n (q := 6) dX9_noSlot_5 rfl rfl ?_
  refine g_iload_n (q := 7) dX9_noSlot_6 rfl rfl ?_
  refine g_iconst (q := 8) (v := (nI 2)) dX9_noSlot_7 rfl (by decide) ?_
  refine gb_callV (q := 11) (j := 0) (i := 0) dX9_noSlot_8 rfl kv_X9_220 (c_mno1 (I := va_up I 0 (nI 0)) hb rfl (hB.1.at (j := 0) rfl)) rfl (by decide) hB rfl rfl rfl rfl (bz_le rfl) (by decide) (by decide) (fun r g1 hQ => ?_)
  obtain ⟨rfl, h1⟩ := hQ
  have hB := hB.sp (j := 0) rfl 0 rfl h1 (bz_le rfl)
  exact g_zret dX9_noSlot_11 rfl rfl ⟨rfl, hB⟩
set_option maxRecDepth 20000 in
set_option maxHeartbeats 1000000 in
theorem c_mnoSlot0 {l : Launch} {E : bz_E} {L : List Nat} {g : Nat → va_E} {o : Nat} {I : Nat → Int32} {A : Nat → Nat → Int32} {s : Nat} (hs : s < 2) (hH : bz_H L g o (b_Mod E o I A)) : bz_K l E mX9_noSlot 2 [.ref o, .int (nI s)] L g (fun r g1 => r = some (.int (nI 0)) ∧ bz_B L g g1 [(o, b_Mod E o (va_up I 0 (nI 0)) A)]) := by
  refine bz_K.of (by decide) (bz_le rfl) (fun sz => ?_)
  have hB := bz_B.rf (bz_W.one hH)
  show bz_G _ _ _ _ _ _ _ _ _ _ _ _ 0 [(0, .ref o), (1, .int (nI s))] []
  refine g_aload_n (q := 1) dX9_noSlot_0 rfl rfl ?_
  refine g_iconst (q := 2) (v := (nI 0)) dX9_noSlot_1 rfl (by decide) ?_
  refine gb_putf (q := 5) (j := 0) (i := 0) dX9_noSlot_2 rfl fp_X9_70 hB rfl rfl rfl (bz_le rfl) rfl rfl (fun g hB => ?_)
  refine g_aload_n (q := 6) dX9_noSlot_5 rfl rfl ?_
  refine g_iload_n (q := 7) dX9_noSlot_6 rfl rfl ?_
  refine g_iconst (q := 8) (v := (nI 2)) dX9_noSlot_7 rfl (by decide) ?_
  refine gb_callV (q := 11) (j := 0) (i := 0) dX9_noSlot_8 rfl kv_X9_220 (c_mno0 (I := va_up I 0 (nI 0)) hs (by decide) rfl (hB.1.at (j := 0) rfl)) rfl (by decide) hB rfl rfl rfl rfl (bz_le rfl) (by decide) (by decide) (fun r g1 hQ => ?_)
  obtain ⟨rfl, hg⟩ := hQ
  have hg := hg.symm
  subst hg
  exact g_zret dX9_noSlot_11 rfl rfl ⟨rfl, hB⟩
set_option maxRecDepth 20000 in
set_option maxHeartbeats 1000000 in
theorem c_msave1 {l : Launch} {E : bz_E} {L : List Nat} {g : Nat → va_E} {o : Nat} {I : Nat → Int32} {A : Nat → Nat → Int32} {v : Int32} (hb : m_bad v 2 = true) (hH : bz_H L g o (b_Mod E o I A)) : bz_K l E mX9_saveSnapshot 3 [.ref o, .int v] L g (fun r g1 => r = some (.int (nI 0)) ∧ bz_B L g g1 [(o, b_Mod E o (va_up I 0 (nI 1)) A)]) := by
  refine bz_K.of (by decide) (bz_le rfl) (fun sz => ?_)
  have hB := bz_B.rf (bz_W.one hH)
  show bz_G _ _ _ _ _ _ _ _ _ _ _ _ 0 [(0, .ref o), (1, .int v)] []
  refine g_aload_n (q := 1) dX9_saveSnapshot_0 rfl rfl ?_
  refine g_iload_n (q := 2) dX9_saveSnapshot_1 rfl rfl ?_
  refine gb_callV (q := 5) (j := 0) (i := 0) dX9_saveSnapshot_2 rfl kv_X9_330 (c_mnoSlot1 hb (hB.1.at (j := 0) rfl)) rfl (by decide) hB rfl rfl rfl rfl (bz_le rfl) (by decide) (by decide) (fun r g1 hQ => ?_)
  obtain ⟨rfl, h1⟩ := hQ
  have hB := hB.sp (j := 0) rfl 0 rfl h1 (bz_le rfl)
  refine g_ifN_eq (q := 8) (t := 10) dX9_saveSnapshot_5 rfl (by decide) (by omega) (fun c => absurd c (by omega)) (fun _ => ?_)
  refine g_iconst (q := 9) (v := (nI 0)) dX9_saveSnapshot_8 rfl (by decide) ?_
  exact g_zret dX9_saveSnapshot_9 rfl rfl ⟨rfl, hB⟩
set_option maxRecDepth 20000 in
set_option maxHeartbeats 1000000 in
theorem c_msave0 {l : Launch} {E : bz_E} {L : List Nat} {g : Nat → va_E} {o : Nat} {I : Nat → Int32} {A : Nat → Nat → Int32} {s : Nat} {b : Bool} (hs : s < 2) (hsv : A 15 s = tB b) (hH : bz_H L g o (b_Mod E o I A)) : bz_K l E mX9_saveSnapshot 3 [.ref o, .int (nI s)] L g (fun r g1 => r = some (.int (tB b)) ∧ bz_B L g g1 [(o, b_Mod E o (va_up I 0 (nI 0)) (va_up (va_up A 14 (va_cpy (A 1) (A 14) 0 (2075 * s) 2075)) 15 (upd (A 15) s (nI 1))))]) := by
  refine bz_K.of (by decide) (bz_le rfl) (fun sz => ?_)
  have hB := bz_B.rf (bz_W.one hH)
  show bz_G _ _ _ _ _ _ _ _ _ _ _ _ 0 [(0, .ref o), (1, .int (nI s))] []
  refine g_aload_n (q := 1) dX9_saveSnapshot_0 rfl rfl ?_
  refine g_iload_n (q := 2) dX9_saveSnapshot_1 rfl rfl ?_
  refine gb_callV (q := 5) (j := 0) (i := 0) dX9_saveSnapshot_2 rfl kv_X9_330 (c_mnoSlot0 hs (hB.1.at (j := 0) rfl)) rfl (by decide) hB rfl rfl rfl rfl (bz_le rfl) (by decide) (by decide) (fun r g1 hQ => ?_)
  obtain ⟨rfl, h1⟩ := hQ
  have hB := hB.sp (j := 0) rfl 0 rfl h1 (bz_le rfl)
  refine g_ifN_eq (q := 8) (t := 10) dX9_saveSnapshot_5 rfl (by decide) (by omega) (fun _ => ?_) (fun c => absurd c (by omega))
  refine g_aload_n (q := 11) dX9_saveSnapshot_10 rfl rfl ?_
  refine gb_getf (q := 14) (j := 0) (i := 0) dX9_saveSnapshot_11 rfl fl_X9_57 hB rfl rfl rfl rfl ?_
  refine g_iload_n (q := 15) dX9_saveSnapshot_14 rfl rfl ?_
  refine gb_zaldN (q := 16) (j := 0) (i := 15) dX9_saveSnapshot_15 rfl hB rfl rfl rfl (by omega) (by decide) ?_
  refine g_eqi (v := tB b) (hsv) ?_
  refine g_istore_n (q := 17) rfl dX9_saveSnapshot_16 rfl (by decide) rfl ?_
  refine g_aload_n (q := 18) dX9_saveSnapshot_17 rfl rfl ?_
  refine gb_getf (q := 21) (j := 0) (i := 0) dX9_saveSnapshot_18 rfl fl_X9_7 hB rfl rfl rfl rfl ?_
  refine g_iconst (q := 22) (v := (nI 0)) dX9_saveSnapshot_21 rfl (by decide) ?_
  refine g_aload_n (q := 23) dX9_saveSnapshot_22 rfl rfl ?_
  refine gb_getf (q := 26) (j := 0) (i := 0) dX9_saveSnapshot_23 rfl fl_X9_54 hB rfl rfl rfl rfl ?_
  refine g_sipush (q := 29) (v := (nI 2075)) dX9_saveSnapshot_26 rfl (by decide) ?_
  refine g_iload_n (q := 30) dX9_saveSnapshot_29 rfl rfl ?_
  refine g_imulN (q := 31) dX9_saveSnapshot_30 rfl ?_
  refine g_sipush (q := 34) (v := (nI 2075)) dX9_saveSnapshot_31 rfl (by decide) ?_
  refine g_callS (q := 37) dX9_saveSnapshot_34 rfl ks_X9_305 rfl (c_copies0 (p := o + 1) (q := o + 14) (n1 := 2075) (n2 := 4150) (f := A 1) (h := A 14) (a := 0) (b := 2075 * s) (n := 2075) ((hB.1.at (j := 0) rfl).sub 1 rfl) ((hB.1.at (j := 0) rfl).sub 14 rfl) (by omega) (by omega) (by omega) (by decide) (by decide)) (by decide) rfl (bz_le rfl) (by decide) (by decide) (fun r g1 hQ => ?_)
  obtain ⟨rfl, h1⟩ := hQ
  have hB := hB.sp (j := 0) rfl 14 rfl h1 (bz_le rfl)
  refine g_aload_n (q := 38) dX9_saveSnapshot_37 rfl rfl ?_
  refine gb_getf (q := 41) (j := 0) (i := 0) dX9_saveSnapshot_38 rfl fl_X9_57 hB rfl rfl rfl rfl ?_
  refine g_iload_n (q := 42) dX9_saveSnapshot_41 rfl rfl ?_
  refine g_iconst (q := 43) (v := (nI 1)) dX9_saveSnapshot_42 rfl (by decide) ?_
  refine gb_zastN (q := 44) (j := 0) (i := 15) dX9_saveSnapshot_43 rfl hB rfl rfl rfl (by omega) (by decide) (fun g hB => ?_)
  refine g_iload_n (q := 45) dX9_saveSnapshot_44 rfl rfl ?_
  exact g_zret dX9_saveSnapshot_45 rfl (by cases b <;> rfl) ⟨rfl, hB⟩
set_option maxRecDepth 20000 in
set_option maxHeartbeats 1000000 in
theorem c_mrest2 {l : Launch} {E : bz_E} {L : List Nat} {g : Nat → va_E} {o : Nat} {I : Nat → Int32} {A : Nat → Nat → Int32} {v : Int32} (hb : m_bad v 2 = true) (hH : bz_H L g o (b_Mod E o I A)) : bz_K l E mX9_restoreSnapshot 3 [.ref o, .int v] L g (fun r g1 => r = some (.int (nI 0)) ∧ bz_B L g g1 [(o, b_Mod E o (va_up I 0 (nI 1)) A)]) := by
  refine bz_K.of (by decide) (bz_le rfl) (fun sz => ?_)
  have hB := bz_B.rf (bz_W.one hH)
  show bz_G _ _ _ _ _ _ _ _ _ _ _ _ 0 [(0, .ref o), (1, .int v)] []
  refine g_aload_n (q := 1) dX9_restoreSnapshot_0 rfl rfl ?_
  refine g_iload_n (q := 2) dX9_restoreSnapshot_1 rfl rfl ?_
  refine gb_callV (q := 5) (j := 0) (i := 0) dX9_restoreSnapshot_2 rfl kv_X9_330 (c_mnoSlot1 hb (hB.1.at (j := 0) rfl)) rfl (by decide) hB rfl rfl rfl rfl (bz_le rfl) (by decide) (by decide) (fun r g1 hQ => ?_)
  obtain ⟨rfl, h1⟩ := hQ
  have hB := hB.sp (j := 0) rfl 0 rfl h1 (bz_le rfl)
  refine g_ifN_ne (q := 8) (t := 30) dX9_restoreSnapshot_5 rfl (by decide) (by omega) (fun _ => ?_) (fun c => absurd c (by omega))
  refine g_iconst (q := 31) (v := (nI 0)) dX9_restoreSnapshot_30 rfl (by decide) ?_
  exact g_iret dX9_restoreSnapshot_31 rfl (⟨rfl, hB⟩)
set_option maxRecDepth 20000 in
set_option maxHeartbeats 1000000 in
theorem c_mrest1 {l : Launch} {E : bz_E} {L : List Nat} {g : Nat → va_E} {o : Nat} {I : Nat → Int32} {A : Nat → Nat → Int32} {s : Nat} (hs : s < 2) (hsv : A 15 s = tB false) (hH : bz_H L g o (b_Mod E o I A)) : bz_K l E mX9_restoreSnapshot 3 [.ref o, .int (nI s)] L g (fun r g1 => r = some (.int (nI 0)) ∧ bz_B L g g1 [(o, b_Mod E o (va_up I 0 (nI 2)) A)]) := by
  refine bz_K.of (by decide) (bz_le rfl) (fun sz => ?_)
  have hB := bz_B.rf (bz_W.one hH)
  show bz_G _ _ _ _ _ _ _ _ _ _ _ _ 0 [(0, .ref o), (1, .int (nI s))] []
  refine g_aload_n (q := 1) dX9_restoreSnapshot_0 rfl rfl ?_
  refine g_iload_n (q := 2) dX9_restoreSnapshot_1 rfl rfl ?_
  refine gb_callV (q := 5) (j := 0) (i := 0) dX9_restoreSnapshot_2 rfl kv_X9_330 (c_mnoSlot0 hs (hB.1.at (j := 0) rfl)) rfl (by decide) hB rfl rfl rfl rfl (bz_le rfl) (by decide) (by decide) (fun r g1 hQ => ?_)
  obtain ⟨rfl, h1⟩ := hQ
  have hB := hB.sp (j := 0) rfl 0 rfl h1 (bz_le rfl)
  refine g_ifN_ne (q := 8) (t := 30) dX9_restoreSnapshot_5 rfl (by decide) (by omega) (fun c => absurd c (by omega)) (fun _ => ?_)
  refine g_aload_n (q := 9) dX9_restoreSnapshot_8 rfl rfl ?_
  refine g_aload_n (q := 10) dX9_restoreSnapshot_9 rfl rfl ?_
  refine gb_getf (q := 13) (j := 0) (i := 0) dX9_restoreSnapshot_10 rfl fl_X9_57 hB rfl rfl rfl rfl ?_
  refine g_iload_n (q := 14) dX9_restoreSnapshot_13 rfl rfl ?_
  refine gb_zaldN (q := 15) (j := 0) (i := 15) dX9_restoreSnapshot_14 rfl hB rfl rfl rfl (by omega) (by decide) ?_
  refine g_eqi (v := nI (0)) (hsv) ?_
  refine g_ifN_ne (q := 18) (t := 22) dX9_restoreSnapshot_15 rfl (by decide) (by omega) (fun c => absurd c (by omega)) (fun _ => ?_)
  refine g_iconst (q := 19) (v := (nI 1)) dX9_restoreSnapshot_18 rfl (by decide) ?_
  refine g_goto (q := 23) dX9_restoreSnapshot_19 (by decide) ?_
  refine g_iconst (q := 24) (v := (nI 2)) dX9_restoreSnapshot_23 rfl (by decide) ?_
  refine gb_callV (q := 27) (j := 0) (i := 0) dX9_restoreSnapshot_24 rfl kv_X9_210 (c_mthrowsIf1 (I := va_up I 0 (nI 0)) (A := A) (k := 2) rfl (by decide) (hB.1.at (j := 0) rfl)) rfl (by decide) hB rfl rfl rfl rfl (bz_le rfl) (by decide) (by decide) (fun r g1 hQ => ?_)
  obtain ⟨rfl, h1⟩ := hQ
  have hB := hB.sp (j := 0) rfl 0 rfl h1 (bz_le rfl)
  refine g_ifN_eq (q := 30) (t := 32) dX9_restoreSnapshot_27 rfl (by decide) (by omega) (fun c => absurd c (by omega)) (fun _ => ?_)
  refine g_iconst (q := 31) (v := (nI 0)) dX9_restoreSnapshot_30 rfl (by decide) ?_
  exact g_iret dX9_restoreSnapshot_31 rfl (⟨rfl, hB⟩)
set_option maxRecDepth 20000 in
set_option maxHeartbeats 1000000 in
theorem c_mrest0 {l : Launch} {E : bz_E} {L : List Nat} {g : Nat → va_E} {o : Nat} {I : Nat → Int32} {A : Nat → Nat → Int32} {s : Nat} {σ : Si} (hs : s < 2) (hsv : A 15 s = tB true) (hst : m_st (fun j => A 14 (2075 * s + j)) σ) (hH : bz_H L g o (b_Mod E o I A)) : bz_K l E mX9_restoreSnapshot 3 [.ref o, .int (nI s)] L g (fun r g1 => r = some (.int (nI σ.1)) ∧ ∃ N : Nat → Int32, bz_B L g g1 [(o, b_Mod E o (va_up (va_up I 0 (nI 0)) 27 (nI 0)) (va_up A 1 N))] ∧ m_st N σ) := by
  refine bz_K.of (by decide) (bz_le rfl) (fun sz => ?_)
  show bz_G _ _ _ _ _ _ _ _ _ _ _ _ 0 [(0, .ref o), (1, .int (nI s))] []
  have hB := bz_B.rf (bz_W.one hH)
  have hN : m_st (va_cpy (A 14) (A 1) (2075 * s) 0 2075) σ := m_st_fr hst (fun j hj => by have := va_cpyin (f := A 14) (h := A 1) (a := 2075 * s) (b := 0) hj; rw [Nat.zero_add] at this; exact this)
  refine g_aload_n (q := 1) dX9_restoreSnapshot_0 rfl rfl ?_
  refine g_iload_n (q := 2) dX9_restoreSnapshot_1 rfl rfl ?_
  refine gb_callV (q := 5) (j := 0) (i := 0) dX9_restoreSnapshot_2 rfl kv_X9_330 (c_mnoSlot0 hs (hB.1.at (j := 0) rfl)) rfl (by decide) hB rfl rfl rfl rfl (bz_le rfl) (by decide) (by decide) (fun r g1 hQ => ?_)
  obtain ⟨rfl, h1⟩ := hQ
  have hB := hB.sp (j := 0) rfl 0 rfl h1 (bz_le rfl)
  refine g_ifN_ne (q := 8) (t := 30) dX9_restoreSnapshot_5 rfl (by decide) (by omega) (fun c => absurd c (by omega)) (fun _ => ?_)
  refine g_aload_n (q := 9) dX9_restoreSnapshot_8 rfl rfl ?_
  refine g_aload_n (q := 10) dX9_restoreSnapshot_9 rfl rfl ?_
  refine gb_getf (q := 13) (j := 0) (i := 0) dX9_restoreSnapshot_10 rfl fl_X9_57 hB rfl rfl rfl rfl ?_
  refine g_iload_n (q := 14) dX9_restoreSnapshot_13 rfl rfl ?_
  refine gb_zaldN (q := 15) (j := 0) (i := 15) dX9_restoreSnapshot_14 rfl hB rfl rfl rfl (by omega) (by decide) ?_
  refine g_eqi (v := nI (1)) (hsv) ?_
  refine g_ifN_ne (q := 18) (t := 22) dX9_restoreSnapshot_15 rfl (by decide) (by omega) (fun _ => ?_) (fun c => absurd c (by omega))
  refine g_iconst (q := 23) (v := (nI 0)) dX9_restoreSnapshot_22 rfl (by decide) ?_
  refine g_iconst (q := 24) (v := (nI 2)) dX9_restoreSnapshot_23 rfl (by decide) ?_
  refine gb_callV (q := 27) (j := 0) (i := 0) dX9_restoreSnapshot_24 rfl kv_X9_210 (c_mthrowsIf0 (I := va_up I 0 (nI 0)) (A := A) (k := 2) rfl (hB.1.at (j := 0) rfl)) rfl (by decide) hB rfl rfl rfl rfl (bz_le rfl) (by decide) (by decide) (fun r g1 hQ => ?_)
  obtain ⟨rfl, hg⟩ := hQ
  have hg := hg.symm
  subst hg
  refine g_ifN_eq (q := 30) (t := 32) dX9_restoreSnapshot_27 rfl (by decide) (by omega) (fun _ => ?_) (fun c => absurd c (by omega))
  refine g_aload_n (q := 33) dX9_restoreSnapshot_32 rfl rfl ?_
  refine gb_getf (q := 36) (j := 0) (i := 0) dX9_restoreSnapshot_33 rfl fl_X9_54 hB rfl rfl rfl rfl ?_
  refine g_sipush (q := 39) (v := (nI 2075)) dX9_restoreSnapshot_36 rfl (by decide) ?_
  refine g_iload_n (q := 40) dX9_restoreSnapshot_39 rfl rfl ?_
  refine g_imulN (q := 41) dX9_restoreSnapshot_40 rfl ?_
  refine g_aload_n (q := 42) dX9_restoreSnapshot_41 rfl rfl ?_
  refine gb_getf (q := 45) (j := 0) (i := 0) dX9_restoreSnapshot_42 rfl fl_X9_7 hB rfl rfl rfl rfl ?_
  refine g_iconst (q := 46) (v := (nI 0)) dX9_restoreSnapshot_45 rfl (by decide) ?_
  refine g_sipush (q := 49) (v := (nI 2075)) dX9_restoreSnapshot_46 rfl (by decide) ?_
  refine g_callS (q := 52) dX9_restoreSnapshot_49 rfl ks_X9_305 rfl (c_copies0 (p := o + 14) (q := o + 1) (n1 := 4150) (n2 := 2075) (f := A 14) (h := A 1) (a := 2075 * s) (b := 0) (n := 2075) ((hB.1.at (j := 0) rfl).sub 14 rfl) ((hB.1.at (j := 0) rfl).sub 1 rfl) (by omega) (by omega) (by omega) (by decide) (by decide)) (by decide) rfl (bz_le rfl) (by decide) (by decide) (fun r g1 hQ => ?_)
  obtain ⟨rfl, h1⟩ := hQ
  have hB := hB.sp (j := 0) rfl 1 rfl h1 (bz_le rfl)
  refine g_aload_n (q := 53) dX9_restoreSnapshot_52 rfl rfl ?_
  refine g_iconst (q := 54) (v := (nI 0)) dX9_restoreSnapshot_53 rfl (by decide) ?_
  refine gb_putf (q := 57) (j := 0) (i := 0) dX9_restoreSnapshot_54 rfl fp_X9_217 hB rfl rfl rfl (bz_le rfl) rfl rfl (fun g hB => ?_)
  refine g_aload_n (q := 58) dX9_restoreSnapshot_57 rfl rfl ?_
  refine gb_getf (q := 61) (j := 0) (i := 0) dX9_restoreSnapshot_58 rfl fl_X9_7 hB rfl rfl rfl rfl ?_
  refine g_iconst (q := 62) (v := (nI 0)) dX9_restoreSnapshot_61 rfl (by decide) ?_
  refine gb_ialdN (q := 63) (j := 0) (i := 1) dX9_restoreSnapshot_62 rfl hB rfl rfl rfl (by omega) (by decide) ?_
  refine g_eqi (v := nI (σ.1)) (hN.1) ?_
  exact g_iret dX9_restoreSnapshot_63 rfl (⟨rfl, (va_cpy (A 14) (A 1) (2075 * s) 0 2075), hB, hN⟩)
