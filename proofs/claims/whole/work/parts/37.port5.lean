/-! class Port: firstDueAfter, start, copyFrom, memoryAt, forwardTo -/
def s_due (now : Nat) : List Tx → Nat → Nat
  | [], m => m
  | x :: r, m => s_due now r (if now < tM x then min m (tM x) else m)

set_option maxRecDepth 20000 in
set_option maxHeartbeats 1000000 in
theorem c_firstDueAfter {l : Launch} {E : bz_E} {L : List Nat} {g : Nat → va_E} {o now : Nat} {W : List Tx} {fq cq fw cw s wn cm wd mem : Nat → Int32} {zq a b c : Int32} (hnow : now < 100000) (hW : s_ln fw cw W) (hWo : s_lok W) (hH : bz_H L g o (b_Port E o fq cq zq fw cw (nI W.length) s wn cm wd mem a b c)) : bz_K l E mX4_firstDueAfter 1 [.ref o, .int (nI now)] L g (fun r g1 => r = some (.int (nI (s_due now W 1000000))) ∧ g1 = g) := by
  refine bz_K.of (by decide) (bz_le rfl) (fun sz => ?_)
  have hB := bz_B.rf (bz_W.one hH)
  show bz_G _ _ _ _ _ _ _ _ _ _ _ _ 0 [(0, .ref o), (1, .int (nI now))] []
  have hl := hWo.len
  have K : ∀ (R : List Tx) (i m : Nat), i + R.length = W.length → m ≤ 1000000 → (∀ (j : Nat) (x : Tx), R[j]? = some x → W[i + j]? = some x) → s_due now R m = s_due now W 1000000 → bz_G l E mX4_firstDueAfter (bz_R 1 0 0) L sz (bz_Fm E L sz (fun r g1 => r = some (.int (nI (s_due now W 1000000))) ∧ g1 = g)) sz 0 0 L g 5 [(3, .int (nI i)), (2, .int (nI m)), (0, .ref o), (1, .int (nI now))] [] := by
    intro R
    induction R with
    | nil =>
      intro i m hi hm hR hr2
      have hi2 : i = W.length := by simpa using hi
      refine g_iload_n (q := 6) dX4_firstDueAfter_5 rfl rfl ?_
      refine g_aload_n (q := 7) dX4_firstDueAfter_6 rfl rfl ?_
      refine gb_getf (q := 10) (j := 0) (i := 0) dX4_firstDueAfter_7 rfl fl_X4_18 hB rfl rfl rfl rfl ?_
      refine gb_getf (q := 13) (j := 0) (i := 4) dX4_firstDueAfter_10 rfl fl_X4_68 hB rfl rfl rfl rfl ?_
      refine g_icmpN_ge (q := 16) (t := 46) dX4_firstDueAfter_13 rfl (by decide) (by omega) (by omega) (fun _ => ?_) (fun c => absurd c (by omega))
      refine g_iload_n (q := 47) dX4_firstDueAfter_46 rfl rfl ?_
      exact g_iret dX4_firstDueAfter_47 rfl (⟨by rw [← hr2]; rfl, rfl⟩)
    | cons x R ih =>
      intro i m hi hm hR hr2
      have hi2 : i + (R.length + 1) = W.length := by simpa using hi
      have hpx := hR 0 x rfl
      have hx := hW.1 i x hpx
      have hxo := hWo.1 x (List.mem_of_getElem? hpx)
      have hxm := hxo.2.2.2.2.1
      refine g_iload_n (q := 6) dX4_firstDueAfter_5 rfl rfl ?_
      refine g_aload_n (q := 7) dX4_firstDueAfter_6 rfl rfl ?_
      refine gb_getf (q := 10) (j := 0) (i := 0) dX4_firstDueAfter_7 rfl fl_X4_18 hB rfl rfl rfl rfl ?_
      refine gb_getf (q := 13) (j := 0) (i := 4) dX4_firstDueAfter_10 rfl fl_X4_68 hB rfl rfl rfl rfl ?_
      refine g_icmpN_ge (q := 16) (t := 46) dX4_firstDueAfter_13 rfl (by decide) (by omega) (by omega) (fun c => absurd c (by omega)) (fun _ => ?_)
      refine g_aload_n (q := 17) dX4_firstDueAfter_16 rfl rfl ?_
      refine gb_getf (q := 20) (j := 0) (i := 0) dX4_firstDueAfter_17 rfl fl_X4_18 hB rfl rfl rfl rfl ?_
      refine g_iload_n (q := 21) dX4_firstDueAfter_20 rfl rfl ?_
      refine g_iconst (q := 22) (v := (nI 5)) dX4_firstDueAfter_21 rfl (by decide) ?_
      refine gb_callV (q := 25) (j := 0) (i := 4) dX4_firstDueAfter_22 rfl kv_X4_71 (c_get (x := 5) (by omega) ((hB.1.at (j := 0) rfl).sub 4 rfl)) rfl (by decide) hB rfl rfl rfl rfl (bz_le rfl) (by decide) (by decide) (fun r g1 hQ => ?_)
      obtain ⟨rfl, hg⟩ := hQ
      have hg := hg.symm
      subst hg
      refine g_eqi (v := nI (tM x)) (hx.2.2.2.2.2.1) ?_
      refine g_istore (q := 27) dX4_firstDueAfter_25 rfl (by decide) rfl ?_
      refine g_iload (q := 29) dX4_firstDueAfter_27 rfl rfl ?_
      refine g_iload_n (q := 30) dX4_firstDueAfter_29 rfl rfl ?_
      refine g_icmpN_le (q := 33) (t := 40) dX4_firstDueAfter_30 rfl (by decide) (by omega) (by omega) (fun c_30 => ?_) (fun c_30 => ?_)
      · refine g_iincN (q := 43) (c := 1) dX4_firstDueAfter_40 rfl (by decide) rfl rfl (by decide) ?_
        refine g_goto (q := 5) dX4_firstDueAfter_43 (by decide) ?_
        first
          | (refine g_lvs (lv1 := [(3, .int (nI (i + 1))), (2, .int (nI (min m (tM x)))), (0, .ref o), (1, .int (nI now))]) ⟨rfl, rfl, rfl, rfl, trivial⟩ ?_
             exact ih (i + 1) _ (by omega) (by omega) (fun j y hj => by rw [show i + 1 + j = i + (j + 1) by omega]; exact hR (j + 1) y hj) (by rw [← hr2, s_due, if_pos (by omega)]))
          | (refine g_lvs (lv1 := [(3, .int (nI (i + 1))), (2, .int (nI m)), (0, .ref o), (1, .int (nI now))]) ⟨rfl, rfl, rfl, rfl, trivial⟩ ?_
             exact ih (i + 1) _ (by omega) (by omega) (fun j y hj => by rw [show i + 1 + j = i + (j + 1) by omega]; exact hR (j + 1) y hj) (by rw [← hr2, s_due, if_neg (by omega)]))
      · refine g_iload_n (q := 34) dX4_firstDueAfter_33 rfl rfl ?_
        refine g_iload (q := 36) dX4_firstDueAfter_34 rfl rfl ?_
        refine g_min (q := 39) dX4_firstDueAfter_36 rfl kmn_X4_84 (by decide) (bz_le rfl) (by decide) (by decide) ?_
        refine g_eqi (v := nI (min m (tM x))) (bz_minI (by omega) (by omega)) ?_
        refine g_istore_n (q := 40) rfl dX4_firstDueAfter_39 rfl (by decide) rfl ?_
        refine g_iincN (q := 43) (c := 1) dX4_firstDueAfter_40 rfl (by decide) rfl rfl (by decide) ?_
        refine g_goto (q := 5) dX4_firstDueAfter_43 (by decide) ?_
        first
          | (refine g_lvs (lv1 := [(3, .int (nI (i + 1))), (2, .int (nI (min m (tM x)))), (0, .ref o), (1, .int (nI now))]) ⟨rfl, rfl, rfl, rfl, trivial⟩ ?_
             exact ih (i + 1) _ (by omega) (by omega) (fun j y hj => by rw [show i + 1 + j = i + (j + 1) by omega]; exact hR (j + 1) y hj) (by rw [← hr2, s_due, if_pos (by omega)]))
          | (refine g_lvs (lv1 := [(3, .int (nI (i + 1))), (2, .int (nI m)), (0, .ref o), (1, .int (nI now))]) ⟨rfl, rfl, rfl, rfl, trivial⟩ ?_
             exact ih (i + 1) _ (by omega) (by omega) (fun j y hj => by rw [show i + 1 + j = i + (j + 1) by omega]; exact hR (j + 1) y hj) (by rw [← hr2, s_due, if_neg (by omega)]))
  refine g_ldc (q := 2) (v := 1000000) dX4_firstDueAfter_0 rfl (bz_mw 620 (by decide +kernel)) ?_
  refine g_eqi (v := nI (1000000)) (by decide) ?_
  refine g_istore_n (q := 3) rfl dX4_firstDueAfter_2 rfl (by decide) rfl ?_
  refine g_iconst (q := 4) (v := (nI 0)) dX4_firstDueAfter_3 rfl (by decide) ?_
  refine g_istore_n (q := 5) rfl dX4_firstDueAfter_4 rfl (by decide) rfl ?_
  refine g_lvs (lv1 := [(3, .int (nI 0)), (2, .int (nI 1000000)), (0, .ref o), (1, .int (nI now))]) ⟨rfl, rfl, rfl, rfl, trivial⟩ ?_
  exact K W 0 1000000 (by omega) (by omega) (fun j x hj => by rw [Nat.zero_add]; exact hj) rfl
set_option maxRecDepth 20000 in
set_option maxHeartbeats 1000000 in
theorem c_memoryAt {l : Launch} {E : bz_E} {L : List Nat} {g : Nat → va_E} {o i : Nat} {fq cq fw cw s wn cm wd mem : Nat → Int32} {zq zw a b c : Int32} (hi : i < 16) (hH : bz_H L g o (b_Port E o fq cq zq fw cw zw s wn cm wd mem a b c)) : bz_K l E mX4_memoryAt 1 [.ref o, .int (nI i)] L g (fun r g1 => r = some (.int (mem i)) ∧ g1 = g) := by
  refine bz_K.of (by decide) (bz_le rfl) (fun sz => ?_)
  have hB := bz_B.rf (bz_W.one hH)
  show bz_G _ _ _ _ _ _ _ _ _ _ _ _ 0 [(0, .ref o), (1, .int (nI i))] []
  refine g_aload_n (q := 1) dX4_memoryAt_0 rfl rfl ?_
  refine gb_getf (q := 4) (j := 0) (i := 0) dX4_memoryAt_1 rfl fl_X4_28 hB rfl rfl rfl rfl ?_
  refine g_iload_n (q := 5) dX4_memoryAt_4 rfl rfl ?_
  refine g_callN (q := 8) dX4_memoryAt_5 rfl kn_X4_41 rfl (c_cellOf hi (by decide) (hH.sub 12 rfl)) (by decide) rfl (bz_le rfl) (by decide) (by decide) (fun r g1 hQ => ?_)
  obtain ⟨rfl, hg⟩ := hQ
  have hg := hg.symm
  subst hg
  exact g_iret dX4_memoryAt_8 rfl (⟨rfl, rfl⟩)
def s_cpr (r r2 : PR) (nq nw : Nat) : PR := (va_cpy r2.1 r.1 0 0 (nq * 11), va_cpy r2.2.1 r.2.1 0 0 4, nI nq, va_cpy r2.2.2.2.1 r.2.2.2.1 0 0 (nw * 11), va_cpy r2.2.2.2.2.1 r.2.2.2.2.1 0 0 4, nI nw, va_cpy r2.2.2.2.2.2.2.1 r.2.2.2.2.2.2.1 0 0 8, va_cpy r2.2.2.2.2.2.2.2.1 r.2.2.2.2.2.2.2.1 0 0 8, va_cpy r2.2.2.2.2.2.2.2.2.1 r.2.2.2.2.2.2.2.2.1 0 0 8, va_cpy r2.2.2.2.2.2.2.2.2.2.1 r.2.2.2.2.2.2.2.2.2.1 0 0 32, va_cpy r2.2.2.2.2.2.2.2.2.2.2.1 r.2.2.2.2.2.2.2.2.2.2.1 0 0 16, r2.2.2.2.2.2.2.2.2.2.2.2.1, r2.2.2.2.2.2.2.2.2.2.2.2.2.1, r2.2.2.2.2.2.2.2.2.2.2.2.2.2)
theorem va_cpyt {f g : Nat → Int32} {n i : Nat} (h : i < n) : va_cpy f g 0 0 n i = f i := by
  unfold va_cpy
  rw [if_pos ⟨by omega, by omega⟩]
  congr 1
  omega
/-- two sides alike: the memory up to its 16 words -/
def s_eqm (P P2 : Po) : Prop := P.1 = P2.1 ∧ P.2.1 = P2.2.1 ∧ P.2.2.1 = P2.2.2.1 ∧ (∀ i, i < 16 → P.2.2.2.1 i = P2.2.2.2.1 i) ∧ P.2.2.2.2 = P2.2.2.2.2
theorem s_cpr_rep {r r2 : PR} {P : Po} (h : s_rep r2 P) : s_rep (s_cpr r r2 P.1.length P.2.1.length) (P.1, P.2.1, P.2.2.1, va_cpy P.2.2.2.1 r.2.2.2.2.2.2.2.2.2.2.1 0 0 16, P.2.2.2.2) := by
  obtain ⟨h1, h2, h3, h4, h5, h6, h7, h8, h9, h10, h11⟩ := h
  refine ⟨s_ln_cp h3.1 h1, rfl, h3, s_ln_cp h6.1 h4, rfl, h6, ⟨fun t ht => ?_, fun i hi => ?_⟩, ?_, h9, h10, h11⟩
  · obtain ⟨a1, a2, a3, a4, a5⟩ := h7.1 t ht
    refine ⟨?_, ?_, ?_, a4, a5⟩
    · exact (va_cpyt ht).trans a1
    · exact (va_cpyt ht).trans a2
    · exact (va_cpyt ht).trans a3
  · exact (va_cpyt hi).trans (h7.2 i hi)
  · show va_cpy r2.2.2.2.2.2.2.2.2.2.2.1 _ 0 0 16 = va_cpy P.2.2.2.1 _ 0 0 16
    rw [h8]
set_option maxRecDepth 20000 in
set_option maxHeartbeats 1000000 in
theorem c_pcopyFrom {l : Launch} {E : bz_E} {L : List Nat} {g : Nat → va_E} {o p : Nat} {r0 r2 : PR} {P : Po} (hr : s_rep r2 P) (hH : bz_H L g o (b_PR E o r0)) (hJ : bz_H L g p (b_PR E p r2)) (hd : o + 13 ≤ p ∨ p + 13 ≤ o) : bz_K l E mX4_copyFrom 2 [.ref o, .ref p] L g (fun r g1 => r = none ∧ bz_B L g g1 [(o, b_PR E o (s_cpr r0 r2 P.1.length P.2.1.length))]) := by
  refine bz_K.of (by decide) (bz_le rfl) (fun sz => ?_)
  show bz_G _ _ _ _ _ _ _ _ _ _ _ _ 0 [(0, .ref o), (1, .ref p)] []
  obtain ⟨fq, cq, zq, fw, cw, zw, s, wn, cm, wd, mem, a, b, c⟩ := r0
  obtain ⟨fq2, cq2, zq2, fw2, cw2, zw2, s2, wn2, cm2, wd2, mem2, a2, b2, c2⟩ := r2
  obtain ⟨h1, h2, h3, h4, h5, h6, h7, h8, h9, h10, h11⟩ := hr
  dsimp only at h1 h2 h3 h4 h5 h6 h7 h8 h9 h10 h11
  subst h2; subst h5
  have hl1 := h3.len
  have hl2 := h6.len
  have hB := bz_B.rf (bz_W.two hH hJ hd)
  refine g_aload_n (q := 1) dX4_copyFrom_0 rfl rfl ?_
  refine gb_getf (q := 4) (j := 0) (i := 0) dX4_copyFrom_1 rfl fl_X4_12 hB rfl rfl rfl rfl ?_
  refine g_aload_n (q := 5) dX4_copyFrom_4 rfl rfl ?_
  refine gb_getf (q := 8) (j := 1) (i := 0) dX4_copyFrom_5 rfl fl_X4_12 hB rfl rfl rfl rfl ?_
  refine gb_callV (q := 11) (j := 0) (i := 1) dX4_copyFrom_8 rfl kv_X4_55 (c_copyFrom hl1 ((hB.1.at (j := 0) rfl).sub 1 rfl) ((hB.1.at (j := 1) rfl).sub 1 rfl) (by omega)) rfl (by decide) hB rfl rfl rfl rfl (bz_le rfl) (by decide) (by decide) (fun r g1 hQ => ?_)
  obtain ⟨rfl, h1⟩ := hQ
  have hB := hB.sp (j := 0) rfl 1 rfl h1 (bz_le rfl)
  refine g_aload_n (q := 12) dX4_copyFrom_11 rfl rfl ?_
  refine gb_getf (q := 15) (j := 0) (i := 0) dX4_copyFrom_12 rfl fl_X4_18 hB rfl rfl rfl rfl ?_
  refine g_aload_n (q := 16) dX4_copyFrom_15 rfl rfl ?_
  refine gb_getf (q := 19) (j := 1) (i := 0) dX4_copyFrom_16 rfl fl_X4_18 hB rfl rfl rfl rfl ?_
  refine gb_callV (q := 22) (j := 0) (i := 4) dX4_copyFrom_19 rfl kv_X4_55 (c_copyFrom hl2 ((hB.1.at (j := 0) rfl).sub 4 rfl) ((hB.1.at (j := 1) rfl).sub 4 rfl) (by omega)) rfl (by decide) hB rfl rfl rfl rfl (bz_le rfl) (by decide) (by decide) (fun r g1 hQ => ?_)
  obtain ⟨rfl, h1⟩ := hQ
  have hB := hB.sp (j := 0) rfl 4 rfl h1 (bz_le rfl)
  refine g_aload_n (q := 23) dX4_copyFrom_22 rfl rfl ?_
  refine gb_getf (q := 26) (j := 0) (i := 0) dX4_copyFrom_23 rfl fl_X4_24 hB rfl rfl rfl rfl ?_
  refine g_aload_n (q := 27) dX4_copyFrom_26 rfl rfl ?_
  refine gb_getf (q := 30) (j := 1) (i := 0) dX4_copyFrom_27 rfl fl_X4_24 hB rfl rfl rfl rfl ?_
  refine gb_callV (q := 33) (j := 0) (i := 7) dX4_copyFrom_30 rfl kv_X4_59 (c_tcopyFrom ((hB.1.at (j := 0) rfl).sub 7 rfl) ((hB.1.at (j := 1) rfl).sub 7 rfl) (by omega)) rfl (by decide) hB rfl rfl rfl rfl (bz_le rfl) (by decide) (by decide) (fun r g1 hQ => ?_)
  obtain ⟨rfl, h1⟩ := hQ
  have hB := hB.sp (j := 0) rfl 7 rfl h1 (bz_le rfl)
  refine g_aload_n (q := 34) dX4_copyFrom_33 rfl rfl ?_
  refine gb_getf (q := 37) (j := 1) (i := 0) dX4_copyFrom_34 rfl fl_X4_28 hB rfl rfl rfl rfl ?_
  refine g_iconst (q := 38) (v := (nI 0)) dX4_copyFrom_37 rfl (by decide) ?_
  refine g_aload_n (q := 39) dX4_copyFrom_38 rfl rfl ?_
  refine gb_getf (q := 42) (j := 0) (i := 0) dX4_copyFrom_39 rfl fl_X4_28 hB rfl rfl rfl rfl ?_
  refine g_iconst (q := 43) (v := (nI 0)) dX4_copyFrom_42 rfl (by decide) ?_
  refine g_bipush (q := 45) (v := (nI 16)) dX4_copyFrom_43 rfl (by decide) ?_
  refine gb_copyi (q := 48) (j0 := 1) (i0 := 12) (j1 := 0) (i1 := 12) dX4_copyFrom_45 rfl kc_X4_62 (by decide) (bz_le rfl) hB rfl rfl rfl rfl rfl rfl (by omega) (by omega) (by decide) (by decide) (fun g hB => ?_)
  refine g_aload_n (q := 49) dX4_copyFrom_48 rfl rfl ?_
  refine g_aload_n (q := 50) dX4_copyFrom_49 rfl rfl ?_
  refine gb_getf (q := 53) (j := 1) (i := 0) dX4_copyFrom_50 rfl fl_X4_45 hB rfl rfl rfl rfl ?_
  refine gb_putf (q := 56) (j := 0) (i := 0) dX4_copyFrom_53 rfl fp_X4_45 hB rfl rfl rfl (bz_le rfl) rfl rfl (fun g hB => ?_)
  refine g_aload_n (q := 57) dX4_copyFrom_56 rfl rfl ?_
  refine g_aload_n (q := 58) dX4_copyFrom_57 rfl rfl ?_
  refine gb_getf (q := 61) (j := 1) (i := 0) dX4_copyFrom_58 rfl fl_X4_49 hB rfl rfl rfl rfl ?_
  refine gb_putf (q := 64) (j := 0) (i := 0) dX4_copyFrom_61 rfl fp_X4_49 hB rfl rfl rfl (bz_le rfl) rfl rfl (fun g hB => ?_)
  refine g_aload_n (q := 65) dX4_copyFrom_64 rfl rfl ?_
  refine g_aload_n (q := 66) dX4_copyFrom_65 rfl rfl ?_
  refine gb_getf (q := 69) (j := 1) (i := 0) dX4_copyFrom_66 rfl fl_X4_52 hB rfl rfl rfl rfl ?_
  refine gb_putf (q := 72) (j := 0) (i := 0) dX4_copyFrom_69 rfl fp_X4_52 hB rfl rfl rfl (bz_le rfl) rfl rfl (fun g hB => ?_)
  exact g_vret dX4_copyFrom_72 rfl (⟨rfl, bz_B.fst hB hJ⟩)
