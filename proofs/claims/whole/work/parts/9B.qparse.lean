/-! the reference: all lifted; a beginning; parse -/
def q_lift (A : Nat → Nat → Int32) : Nat → Nat → Int32 := (va_up (va_up (va_up (va_up (va_up (va_up (va_up A 2 (v_li (A 2) 8 8)) 3 (v_li (A 3) 8 8)) 4 (v_li (A 4) 16 16)) 5 (v_li (A 5) 32 32)) 6 (v_li (A 6) 2 2)) 7 (v_li (A 7) 2 2)) 8 (v_li (A 8) 1240 1240))
theorem v_li_in {f : Nat → Int32} {h k : Nat} (hk : k < h) : v_li f h h k = f (h + k) := if_pos hk
theorem q_lift_pl {A : Nat → Nat → Int32} {D : Pl} (hd : d_ok D) (h : q_dr A D) : m_pl (q_lift A) D := by
  obtain ⟨d1, d2, d3, d4, d5, d6⟩ := hd
  obtain ⟨h1, h2, h3, h4, h5, h6, h7, h8⟩ := h
  refine ⟨fun k hk => ⟨(show v_li (A 2) 8 8 k = A 2 (8 + k) from v_li_in hk).trans (h1 k hk), (d1 k hk).1, (d1 k hk).2.1, (show v_li (A 3) 8 8 k = A 3 (8 + k) from v_li_in hk).trans (h2 k hk), (d1 k hk).2.2⟩, fun k hk => ⟨(show v_li (A 4) 16 16 k = A 4 (16 + k) from v_li_in hk).trans (h3 k hk), d2 k hk⟩, fun k hk => (show v_li (A 5) 32 32 k = A 5 (32 + k) from v_li_in hk).trans (h4 k hk), (show v_li (A 6) 2 2 0 = A 6 (2 + 0) from v_li_in (by decide)).trans h5, d3, (show v_li (A 6) 2 2 1 = A 6 (2 + 1) from v_li_in (by decide)).trans h6, d4, ⟨(show v_li (A 7) 2 2 0 = A 7 (2 + 0) from v_li_in (by decide)).trans h7.1, d5.1, fun j x hj => ?_, d5.2⟩, ⟨(show v_li (A 7) 2 2 1 = A 7 (2 + 1) from v_li_in (by decide)).trans h8.1, d6.1, fun j x hj => ?_, d6.2⟩⟩
  · have hl := (List.getElem?_eq_some_iff.mp hj).1
    refine (show v_li (A 8) 1240 1240 (620 * 0 + j) = A 8 (1240 + (620 * 0 + j)) from v_li_in (by have := d5.1; omega)).trans ?_
    rw [show 1240 + (620 * 0 + j) = 620 * (2 + 0) + j by omega]
    exact h7.2 j x hj
  · have hl := (List.getElem?_eq_some_iff.mp hj).1
    refine (show v_li (A 8) 1240 1240 (620 * 1 + j) = A 8 (1240 + (620 * 1 + j)) from v_li_in (by have := d6.1; omega)).trans ?_
    rw [show 1240 + (620 * 1 + j) = 620 * (2 + 1) + j by omega]
    exact h8.2 j x hj
def s_T0 : Tg := (fun _ => 0, fun _ => 0, fun _ => 0, fun _ => nI 0)
def s_P0 (m : Nat → Int32) : Po := ([], [], s_T0, m, 0, 0, 0)
def s_00 (m0 m1 : Nat → Int32) : Si := (0, s_P0 m0, s_P0 m1)
def q_n0 (N f : Nat → Int32) : Nat → Int32 := v_fg (v_fg N 0 (fun _ => nI 0) 2075) 11 f 32
theorem q_n0_z {N f : Nat → Int32} {k : Nat} (h : k < 11 ∨ 43 ≤ k) (h2 : k < 2075) : q_n0 N f k = nI 0 := by
  unfold q_n0
  rw [v_fg_out (by omega)]
  have := v_fg_in (f := N) (m := 0) (h := fun _ => nI 0) (i := 2075) (k := k) h2
  rwa [Nat.zero_add] at this
theorem s_lok_0 : s_lok [] := ⟨fun y h => absurd h List.not_mem_nil, fun k _ => Nat.zero_le _⟩
theorem m_sd_0 {N f m : Nat → Int32} {s : Nat} (hs : s < 2) (h : ∀ i, i < 16 → m i = f (16 * s + i)) : m_sd (q_n0 N f) s (s_P0 m) := by
  refine ⟨q_n0_z (by omega) (by omega), q_n0_z (by omega) (by omega), q_n0_z (by omega) (by omega), q_n0_z (by omega) (by omega), q_n0_z (by omega) (by omega), fun i hi => ?_, fun t ht => ⟨q_n0_z (by omega) (by omega), fun q => absurd rfl q, q_n0_z (by omega) (by omega), (by decide : 0 < 16), (by decide : 0 ≤ 4), fun i hi => q_n0_z (by omega) (by omega)⟩, fun k x hx => by simp [s_P0] at hx, fun k x hx => by simp [s_P0] at hx, s_lok_0, s_lok_0⟩
  show q_n0 N f (11 + 16 * s + i) = m i
  unfold q_n0
  rw [Nat.add_assoc, v_fg_in (by omega), h i hi]
theorem m_st_0 {N f m0 m1 : Nat → Int32} (h0 : ∀ i, i < 16 → m0 i = f i) (h1 : ∀ i, i < 16 → m1 i = f (16 + i)) : m_st (q_n0 N f) (s_00 m0 m1) :=
  ⟨q_n0_z (by decide) (by decide), m_sd_0 (by decide) (fun i hi => by rw [h0 i hi]; congr 1; omega), m_sd_0 (by decide) (fun i hi => by rw [h1 i hi])⟩
set_option maxRecDepth 20000 in
set_option maxHeartbeats 1000000 in
theorem c_mliftsAll {l : Launch} {E : bz_E} {L : List Nat} {g : Nat → va_E} {o : Nat} {I : Nat → Int32} {A : Nat → Nat → Int32} (hH : bz_H L g o (b_Mod E o I A)) : bz_K l E mX9_liftsAll 1 [.ref o] L g (fun r g1 => r = none ∧ bz_B L g g1 [(o, b_Mod E o I (q_lift A))]) := by
  refine bz_K.of (by decide) (bz_le rfl) (fun sz => ?_)
  have hB := bz_B.rf (bz_W.one hH)
  show bz_G _ _ _ _ _ _ _ _ _ _ _ _ 0 [(0, .ref o)] []
  refine g_aload_n (q := 1) dX9_liftsAll_0 rfl rfl ?_
  refine gb_getf (q := 4) (j := 0) (i := 0) dX9_liftsAll_1 rfl fl_X9_13 hB rfl rfl rfl rfl ?_
  refine g_callS (q := 7) dX9_liftsAll_4 rfl ks_X9_73 rfl (c_mlifts (a := o + 2) (h := 8) (by decide) rfl (by decide) ((hB.1.at (j := 0) rfl).sub 2 rfl)) (by decide) rfl (bz_le rfl) (by decide) (by decide) (fun r g1 hQ => ?_)
  obtain ⟨rfl, h1⟩ := hQ
  have hB := hB.sp (j := 0) rfl 2 rfl h1 (bz_le rfl)
  refine g_aload_n (q := 8) dX9_liftsAll_7 rfl rfl ?_
  refine gb_getf (q := 11) (j := 0) (i := 0) dX9_liftsAll_8 rfl fl_X9_16 hB rfl rfl rfl rfl ?_
  refine g_callS (q := 14) dX9_liftsAll_11 rfl ks_X9_73 rfl (c_mlifts (a := o + 3) (h := 8) (by decide) rfl (by decide) ((hB.1.at (j := 0) rfl).sub 3 rfl)) (by decide) rfl (bz_le rfl) (by decide) (by decide) (fun r g1 hQ => ?_)
  obtain ⟨rfl, h1⟩ := hQ
  have hB := hB.sp (j := 0) rfl 3 rfl h1 (bz_le rfl)
  refine g_aload_n (q := 15) dX9_liftsAll_14 rfl rfl ?_
  refine gb_getf (q := 18) (j := 0) (i := 0) dX9_liftsAll_15 rfl fl_X9_19 hB rfl rfl rfl rfl ?_
  refine g_callS (q := 21) dX9_liftsAll_18 rfl ks_X9_73 rfl (c_mlifts (a := o + 4) (h := 16) (by decide) rfl (by decide) ((hB.1.at (j := 0) rfl).sub 4 rfl)) (by decide) rfl (bz_le rfl) (by decide) (by decide) (fun r g1 hQ => ?_)
  obtain ⟨rfl, h1⟩ := hQ
  have hB := hB.sp (j := 0) rfl 4 rfl h1 (bz_le rfl)
  refine g_aload_n (q := 22) dX9_liftsAll_21 rfl rfl ?_
  refine gb_getf (q := 25) (j := 0) (i := 0) dX9_liftsAll_22 rfl fl_X9_22 hB rfl rfl rfl rfl ?_
  refine g_callS (q := 28) dX9_liftsAll_25 rfl ks_X9_73 rfl (c_mlifts (a := o + 5) (h := 32) (by decide) rfl (by decide) ((hB.1.at (j := 0) rfl).sub 5 rfl)) (by decide) rfl (bz_le rfl) (by decide) (by decide) (fun r g1 hQ => ?_)
  obtain ⟨rfl, h1⟩ := hQ
  have hB := hB.sp (j := 0) rfl 5 rfl h1 (bz_le rfl)
  refine g_aload_n (q := 29) dX9_liftsAll_28 rfl rfl ?_
  refine gb_getf (q := 32) (j := 0) (i := 0) dX9_liftsAll_29 rfl fl_X9_25 hB rfl rfl rfl rfl ?_
  refine g_callS (q := 35) dX9_liftsAll_32 rfl ks_X9_73 rfl (c_mlifts (a := o + 6) (h := 2) (by decide) rfl (by decide) ((hB.1.at (j := 0) rfl).sub 6 rfl)) (by decide) rfl (bz_le rfl) (by decide) (by decide) (fun r g1 hQ => ?_)
  obtain ⟨rfl, h1⟩ := hQ
  have hB := hB.sp (j := 0) rfl 6 rfl h1 (bz_le rfl)
  refine g_aload_n (q := 36) dX9_liftsAll_35 rfl rfl ?_
  refine gb_getf (q := 39) (j := 0) (i := 0) dX9_liftsAll_36 rfl fl_X9_28 hB rfl rfl rfl rfl ?_
  refine g_callS (q := 42) dX9_liftsAll_39 rfl ks_X9_73 rfl (c_mlifts (a := o + 7) (h := 2) (by decide) rfl (by decide) ((hB.1.at (j := 0) rfl).sub 7 rfl)) (by decide) rfl (bz_le rfl) (by decide) (by decide) (fun r g1 hQ => ?_)
  obtain ⟨rfl, h1⟩ := hQ
  have hB := hB.sp (j := 0) rfl 7 rfl h1 (bz_le rfl)
  refine g_aload_n (q := 43) dX9_liftsAll_42 rfl rfl ?_
  refine gb_getf (q := 46) (j := 0) (i := 0) dX9_liftsAll_43 rfl fl_X9_31 hB rfl rfl rfl rfl ?_
  refine g_callS (q := 49) dX9_liftsAll_46 rfl ks_X9_73 rfl (c_mlifts (a := o + 8) (h := 1240) (by decide) rfl (by decide) ((hB.1.at (j := 0) rfl).sub 8 rfl)) (by decide) rfl (bz_le rfl) (by decide) (by decide) (fun r g1 hQ => ?_)
  obtain ⟨rfl, h1⟩ := hQ
  have hB := hB.sp (j := 0) rfl 8 rfl h1 (bz_le rfl)
  exact g_vret dX9_liftsAll_49 rfl (⟨rfl, hB⟩)
set_option maxRecDepth 20000 in
set_option maxHeartbeats 1000000 in
theorem c_mbegins {l : Launch} {E : bz_E} {L : List Nat} {g : Nat → va_E} {o : Nat} {I : Nat → Int32} {A : Nat → Nat → Int32} (hH : bz_H L g o (b_Mod E o I A)) : bz_K l E mX9_begins 0 [.ref o] L g (fun r g1 => r = none ∧ bz_B L g g1 [(o, b_Mod E o (va_up I 27 (nI 0)) (va_up (va_up A 1 (q_n0 (A 1) (A 5))) 15 (upd (upd (A 15) 0 (vp_nar .boolean (nI 0))) 1 (vp_nar .boolean (nI 0)))))]) := by
  refine bz_K.of (by decide) (bz_le rfl) (fun sz => ?_)
  show bz_G _ _ _ _ _ _ _ _ _ _ _ _ 0 [(0, .ref o)] []
  have hB := bz_B.rf (bz_W.one hH)
  have K51 : ∀ g1 : Nat → va_E, bz_B L g g1 [(o, b_Mod E o I (va_up A 1 (q_n0 (A 1) (A 5))))] → bz_G l E mX9_begins (bz_R 0 0 0) L sz (bz_Fm E L sz (fun r g1 => r = none ∧ bz_B L g g1 [(o, b_Mod E o (va_up I 27 (nI 0)) (va_up (va_up A 1 (q_n0 (A 1) (A 5))) 15 (upd (upd (A 15) 0 (vp_nar .boolean (nI 0))) 1 (vp_nar .boolean (nI 0)))))])) sz 0 0 L g1 51 [(0, .ref o)] [] := by
    intro g2 hB
    refine g_aload_n (q := 52) dX9_begins_51 rfl rfl ?_
    refine g_iconst (q := 53) (v := (nI 0)) dX9_begins_52 rfl (by decide) ?_
    refine gb_putf (q := 56) (j := 0) (i := 0) dX9_begins_53 rfl fp_X9_217 hB rfl rfl rfl (bz_le rfl) rfl rfl (fun g hB => ?_)
    refine g_aload_n (q := 57) dX9_begins_56 rfl rfl ?_
    refine gb_getf (q := 60) (j := 0) (i := 0) dX9_begins_57 rfl fl_X9_57 hB rfl rfl rfl rfl ?_
    refine g_iconst (q := 61) (v := (nI 0)) dX9_begins_60 rfl (by decide) ?_
    refine g_iconst (q := 62) (v := (nI 0)) dX9_begins_61 rfl (by decide) ?_
    refine gb_zastN (q := 63) (j := 0) (i := 15) dX9_begins_62 rfl hB rfl rfl rfl (by decide) (by decide) (fun g hB => ?_)
    refine g_aload_n (q := 64) dX9_begins_63 rfl rfl ?_
    refine gb_getf (q := 67) (j := 0) (i := 0) dX9_begins_64 rfl fl_X9_57 hB rfl rfl rfl rfl ?_
    refine g_iconst (q := 68) (v := (nI 1)) dX9_begins_67 rfl (by decide) ?_
    refine g_iconst (q := 69) (v := (nI 0)) dX9_begins_68 rfl (by decide) ?_
    refine gb_zastN (q := 70) (j := 0) (i := 15) dX9_begins_69 rfl hB rfl rfl rfl (by decide) (by decide) (fun g hB => ?_)
    exact g_vret dX9_begins_70 rfl (⟨rfl, hB⟩)
  have L2 : ∀ (m i : Nat) (g1 : Nat → va_E), i + m = 32 → bz_B L g g1 [(o, b_Mod E o I (va_up A 1 (v_fg (v_fg (A 1) 0 (fun _ => nI 0) 2075) 11 (A 5) i)))] → bz_G l E mX9_begins (bz_R 0 0 0) L sz (bz_Fm E L sz (fun r g1 => r = none ∧ bz_B L g g1 [(o, b_Mod E o (va_up I 27 (nI 0)) (va_up (va_up A 1 (q_n0 (A 1) (A 5))) 15 (upd (upd (A 15) 0 (vp_nar .boolean (nI 0))) 1 (vp_nar .boolean (nI 0)))))])) sz 0 0 L g1 24 [(1, .int (nI i)), (0, .ref o)] [] := by
    intro m
    induction m with
    | zero =>
      intro i g2 hm hB
      refine g_iload_n (q := 25) dX9_begins_24 rfl rfl ?_
      refine g_bipush (q := 27) (v := (nI 32)) dX9_begins_25 rfl (by decide) ?_
      refine g_icmpN_ge (q := 30) (t := 51) dX9_begins_27 rfl (by decide) (by omega) (by omega) (fun _ => ?_) (fun c => absurd c (by omega))
      refine g_lvs (lv1 := [(0, .ref o)]) ⟨rfl, trivial⟩ ?_
      have hi8 : i = 32 := by omega
      subst hi8
      exact K51 _ hB
    | succ m ih =>
      intro i g2 hm hB
      refine g_iload_n (q := 25) dX9_begins_24 rfl rfl ?_
      refine g_bipush (q := 27) (v := (nI 32)) dX9_begins_25 rfl (by decide) ?_
      refine g_icmpN_ge (q := 30) (t := 51) dX9_begins_27 rfl (by decide) (by omega) (by omega) (fun c => absurd c (by omega)) (fun _ => ?_)
      refine g_aload_n (q := 31) dX9_begins_30 rfl rfl ?_
      refine gb_getf (q := 34) (j := 0) (i := 0) dX9_begins_31 rfl fl_X9_7 hB rfl rfl rfl rfl ?_
      refine g_bipush (q := 36) (v := (nI 11)) dX9_begins_34 rfl (by decide) ?_
      refine g_iload_n (q := 37) dX9_begins_36 rfl rfl ?_
      refine g_iaddN (q := 38) dX9_begins_37 rfl ?_
      refine g_aload_n (q := 39) dX9_begins_38 rfl rfl ?_
      refine gb_getf (q := 42) (j := 0) (i := 0) dX9_begins_39 rfl fl_X9_22 hB rfl rfl rfl rfl ?_
      refine g_iload_n (q := 43) dX9_begins_42 rfl rfl ?_
      refine gb_ialdN (q := 44) (j := 0) (i := 5) dX9_begins_43 rfl hB rfl rfl rfl (by omega) (by decide) ?_
      refine gb_iastN (q := 45) (j := 0) (i := 1) dX9_begins_44 rfl hB rfl rfl rfl (by omega) (by decide) (fun g hB => ?_)
      refine g_iincN (q := 48) (c := 1) dX9_begins_45 rfl (by decide) rfl rfl (by decide) ?_
      refine g_goto (q := 24) dX9_begins_48 (by decide) ?_
      refine g_lvs (lv1 := [(1, .int (nI (i + 1))), (0, .ref o)]) ⟨rfl, rfl, trivial⟩ ?_
      exact ih (i + 1) _ (by omega) (by rw [← v_fg_s (h := A 5)]; exact hB)
  have K22 : ∀ g1 : Nat → va_E, bz_B L g g1 [(o, b_Mod E o I (va_up A 1 (v_fg (A 1) 0 (fun _ => nI 0) 2075)))] → bz_G l E mX9_begins (bz_R 0 0 0) L sz (bz_Fm E L sz (fun r g1 => r = none ∧ bz_B L g g1 [(o, b_Mod E o (va_up I 27 (nI 0)) (va_up (va_up A 1 (q_n0 (A 1) (A 5))) 15 (upd (upd (A 15) 0 (vp_nar .boolean (nI 0))) 1 (vp_nar .boolean (nI 0)))))])) sz 0 0 L g1 22 [(0, .ref o)] [] := by
    intro g2 hB
    refine g_iconst (q := 23) (v := (nI 0)) dX9_begins_22 rfl (by decide) ?_
    refine g_istore_n (q := 24) rfl dX9_begins_23 rfl (by decide) rfl ?_
    refine g_lvs (lv1 := [(1, .int (nI 0)), (0, .ref o)]) ⟨rfl, rfl, trivial⟩ ?_
    exact L2 32 0 _ rfl (by rw [v_fg_0 (m := 11)]; exact hB)
  have L1 : ∀ (m i : Nat) (g1 : Nat → va_E), i + m = 2075 → bz_B L g g1 [(o, b_Mod E o I (va_up A 1 (v_fg (A 1) 0 (fun _ => nI 0) i)))] → bz_G l E mX9_begins (bz_R 0 0 0) L sz (bz_Fm E L sz (fun r g1 => r = none ∧ bz_B L g g1 [(o, b_Mod E o (va_up I 27 (nI 0)) (va_up (va_up A 1 (q_n0 (A 1) (A 5))) 15 (upd (upd (A 15) 0 (vp_nar .boolean (nI 0))) 1 (vp_nar .boolean (nI 0)))))])) sz 0 0 L g1 2 [(1, .int (nI i)), (0, .ref o)] [] := by
    intro m
    induction m with
    | zero =>
      intro i g2 hm hB
      refine g_iload_n (q := 3) dX9_begins_2 rfl rfl ?_
      refine g_sipush (q := 6) (v := (nI 2075)) dX9_begins_3 rfl (by decide) ?_
      refine g_icmpN_ge (q := 9) (t := 22) dX9_begins_6 rfl (by decide) (by omega) (by omega) (fun _ => ?_) (fun c => absurd c (by omega))
      refine g_lvs (lv1 := [(0, .ref o)]) ⟨rfl, trivial⟩ ?_
      have hi8 : i = 2075 := by omega
      subst hi8
      exact K22 _ hB
    | succ m ih =>
      intro i g2 hm hB
      refine g_iload_n (q := 3) dX9_begins_2 rfl rfl ?_
      refine g_sipush (q := 6) (v := (nI 2075)) dX9_begins_3 rfl (by decide) ?_
      refine g_icmpN_ge (q := 9) (t := 22) dX9_begins_6 rfl (by decide) (by omega) (by omega) (fun c => absurd c (by omega)) (fun _ => ?_)
      refine g_aload_n (q := 10) dX9_begins_9 rfl rfl ?_
      refine gb_getf (q := 13) (j := 0) (i := 0) dX9_begins_10 rfl fl_X9_7 hB rfl rfl rfl rfl ?_
      refine g_iload_n (q := 14) dX9_begins_13 rfl rfl ?_
      refine g_iconst (q := 15) (v := (nI 0)) dX9_begins_14 rfl (by decide) ?_
      refine gb_iastN (q := 16) (j := 0) (i := 1) dX9_begins_15 rfl hB rfl rfl rfl (by omega) (by decide) (fun g hB => ?_)
      refine g_iincN (q := 19) (c := 1) dX9_begins_16 rfl (by decide) rfl rfl (by decide) ?_
      refine g_goto (q := 2) dX9_begins_19 (by decide) ?_
      refine g_lvs (lv1 := [(1, .int (nI (i + 1))), (0, .ref o)]) ⟨rfl, rfl, trivial⟩ ?_
      exact ih (i + 1) _ (by omega) (by rw [← v_fg_s (f := A 1), Nat.zero_add]; exact hB)
  refine g_iconst (q := 1) (v := (nI 0)) dX9_begins_0 rfl (by decide) ?_
  refine g_istore_n (q := 2) rfl dX9_begins_1 rfl (by decide) rfl ?_
  refine g_lvs (lv1 := [(1, .int (nI 0)), (0, .ref o)]) ⟨rfl, rfl, trivial⟩ ?_
  exact L1 2075 0 _ rfl (by rw [v_fg_0]; exact hB)
set_option maxRecDepth 20000 in
set_option maxHeartbeats 1000000 in
theorem c_mparse2 {l : Launch} {E : bz_E} {L : List Nat} {g : Nat → va_E} {o : Nat} {I : Nat → Int32} {A : Nat → Nat → Int32} {v : Int32} {len : Nat} (h10 : I 10 = nI len) (hb : (if v < nI 0 then (0 : Int32) else if nI len < v then 0 else 1) = nI 0) (hH : bz_H L g o (b_Mod E o I A)) : bz_K l E mX9_parse 24 [.ref o, .int v] L g (fun r g1 => r = some (.int (nI 0)) ∧ bz_B L g g1 [(o, b_Mod E o (va_up I 0 (nI 1)) A)]) := by
  refine bz_K.of (by decide) (bz_le rfl) (fun sz => ?_)
  have hB := bz_B.rf (bz_W.one hH)
  show bz_G _ _ _ _ _ _ _ _ _ _ _ _ 0 [(0, .ref o), (1, .int v)] []
  refine g_aload_n (q := 1) dX9_parse_0 rfl rfl ?_
  refine g_iconst (q := 2) (v := (nI 0)) dX9_parse_1 rfl (by decide) ?_
  refine gb_putf (q := 5) (j := 0) (i := 0) dX9_parse_2 rfl fp_X9_70 hB rfl rfl rfl (bz_le rfl) rfl rfl (fun g hB => ?_)
  refine g_aload_n (q := 6) dX9_parse_5 rfl rfl ?_
  refine g_iload_n (q := 7) dX9_parse_6 rfl rfl ?_
  refine g_iconst (q := 8) (v := (nI 0)) dX9_parse_7 rfl (by decide) ?_
  refine g_aload_n (q := 9) dX9_parse_8 rfl rfl ?_
  refine gb_getf (q := 12) (j := 0) (i := 0) dX9_parse_9 rfl fl_X9_88 hB rfl rfl rfl rfl ?_
  refine g_eqi (v := nI (len)) (h10) ?_
  refine g_callS (q := 15) dX9_parse_12 rfl ks_X9_114 rfl (c_mwithin (v := v) (lo := nI 0) (hi := nI len)) (by decide) rfl (bz_le rfl) (by decide) (by decide) (fun r g1 hQ => ?_)
  obtain ⟨rfl, hg⟩ := hQ
  have hg := hg.symm
  subst hg
  refine g_eqi (v := nI 0) (hb) ?_
  refine g_if_ne (q := 18) (t := 22) dX9_parse_15 rfl (by decide) (fun c => absurd c (fun q => q rfl)) (fun _ => ?_)
  refine g_iconst (q := 19) (v := (nI 1)) dX9_parse_18 rfl (by decide) ?_
  refine g_goto (q := 23) dX9_parse_19 (by decide) ?_
  refine g_iconst (q := 24) (v := (nI 1)) dX9_parse_23 rfl (by decide) ?_
  refine gb_callV (q := 27) (j := 0) (i := 0) dX9_parse_24 rfl kv_X9_210 (c_mthrowsIf1 (I := va_up I 0 (nI 0)) (A := A) (k := 1) rfl (by decide) (hB.1.at (j := 0) rfl)) rfl (by decide) hB rfl rfl rfl rfl (bz_le rfl) (by decide) (by decide) (fun r g1 hQ => ?_)
  obtain ⟨rfl, h1⟩ := hQ
  have hB := hB.sp (j := 0) rfl 0 rfl h1 (bz_le rfl)
  refine g_ifN_eq (q := 30) (t := 32) dX9_parse_27 rfl (by decide) (by omega) (fun c => absurd c (by omega)) (fun _ => ?_)
  refine g_iconst (q := 31) (v := (nI 0)) dX9_parse_30 rfl (by decide) ?_
  exact g_iret dX9_parse_31 rfl (⟨rfl, hB⟩)
set_option maxRecDepth 20000 in
set_option maxHeartbeats 1000000 in
theorem c_mparse {l : Launch} {E : bz_E} {L : List Nat} {g : Nat → va_E} {o : Nat} {I : Nat → Int32} {A : Nat → Nat → Int32} {b : Nat → Nat} {n : Nat} {len : Nat} (hb : ∀ i, b i < 256) (hnl : n ≤ len) (hlen : len ≤ 600) (h10 : I 10 = nI len) (h9 : ∀ i, i < 600 → A 9 i = s8 (b i)) (hH : bz_H L g o (b_Mod E o I A)) : bz_K l E mX9_parse 24 [.ref o, .int (nI n)] L g (fun r g1 => (∃ (D : Pl) (k1 k2 : Bool) (t9 : Tok), p_all b n = .inl (D, k1, k2, t9) ∧ (r = some (.int (nI 0)) ∧ ∃ (I9 : Nat → Int32) (A9 : Nat → Nat → Int32), bz_B L g g1 [(o, b_Mod E o I9 A9)] ∧ I9 0 = nI 0 ∧ I9 10 = nI 0 ∧ I9 17 = -1 ∧ I9 27 = nI 0 ∧ m_pl A9 D ∧ (∀ m0 m1 : Nat → Int32, (∀ i, i < 16 → m0 i = nI (D.2.2.2.1 i)) → (∀ i, i < 16 → m1 i = nI (D.2.2.2.1 (16 + i))) → m_st (A9 1) (s_00 m0 m1)) ∧ A9 9 = A 9 ∧ A9 15 0 = nI 0 ∧ A9 15 1 = nI 0)) ∨ (∃ e : Nat × Nat, p_all b n = .inr e ∧ (r = some (.int (nI e.1)) ∧ ∃ (I9 : Nat → Int32) (A9 : Nat → Nat → Int32), bz_B L g g1 [(o, b_Mod E o I9 A9)] ∧ I9 0 = nI 0 ∧ I9 10 = nI 0 ∧ I9 17 = nI e.2 ∧ (∀ i, 21 < i → I9 i = I i) ∧ q_fA A A9))) := by
  refine bz_K.of (by decide) (bz_le rfl) (fun sz => ?_)
  show bz_G _ _ _ _ _ _ _ _ _ _ _ _ 0 [(0, .ref o), (1, .int (nI n))] []
  have hB := bz_B.rf (bz_W.one hH)
  have hn : n ≤ 600 := by omega
  have KX : ∀ (e : Nat × Nat) (I2 : Nat → Int32) (A2 : Nat → Nat → Int32) (g1 : Nat → va_E), p_all b n = .inr e → I2 16 = nI e.1 → I2 17 = nI e.2 → q_fI (va_up (va_up (va_up (va_up (va_up (va_up (va_up (va_up I 0 (nI 0)) 11 (nI n)) 10 (nI 0)) 13 (nI 0)) 16 (nI 0)) 17 (-1)) 19 (nI 0)) 20 (nI 2)) I2 → q_fA A A2 → bz_B L g g1 [(o, b_Mod E o I2 A2)] → bz_G l E mX9_parse (bz_R 24 0 0) L sz (bz_Fm E L sz (fun r g1 => (∃ (D : Pl) (k1 k2 : Bool) (t9 : Tok), p_all b n = .inl (D, k1, k2, t9) ∧ (r = some (.int (nI 0)) ∧ ∃ (I9 : Nat → Int32) (A9 : Nat → Nat → Int32), bz_B L g g1 [(o, b_Mod E o I9 A9)] ∧ I9 0 = nI 0 ∧ I9 10 = nI 0 ∧ I9 17 = -1 ∧ I9 27 = nI 0 ∧ m_pl A9 D ∧ (∀ m0 m1 : Nat → Int32, (∀ i, i < 16 → m0 i = nI (D.2.2.2.1 i)) → (∀ i, i < 16 → m1 i = nI (D.2.2.2.1 (16 + i))) → m_st (A9 1) (s_00 m0 m1)) ∧ A9 9 = A 9 ∧ A9 15 0 = nI 0 ∧ A9 15 1 = nI 0)) ∨ (∃ e : Nat × Nat, p_all b n = .inr e ∧ (r = some (.int (nI e.1)) ∧ ∃ (I9 : Nat → Int32) (A9 : Nat → Nat → Int32), bz_B L g g1 [(o, b_Mod E o I9 A9)] ∧ I9 0 = nI 0 ∧ I9 10 = nI 0 ∧ I9 17 = nI e.2 ∧ (∀ i, 21 < i → I9 i = I i) ∧ q_fA A A9)))) sz 0 0 L g1 72 [(2, .int (nI 0)), (0, .ref o)] [] := by
    intro e I2 A2 g2 hz hc hp hf hA hB
    refine g_iload_n (q := 73) dX9_parse_72 rfl rfl ?_
    refine g_ifN_eq (q := 76) (t := 108) dX9_parse_73 rfl (by decide) (by omega) (fun _ => ?_) (fun c => absurd c (by omega))
    refine g_iload_n (q := 109) dX9_parse_108 rfl rfl ?_
    refine g_ifN_ne (q := 112) (t := 117) dX9_parse_109 rfl (by decide) (by omega) (fun c => absurd c (by omega)) (fun _ => ?_)
    refine g_aload_n (q := 113) dX9_parse_112 rfl rfl ?_
    refine gb_getf (q := 116) (j := 0) (i := 0) dX9_parse_113 rfl fl_X9_130 hB rfl rfl rfl rfl ?_
    refine g_eqi (v := nI e.1) (hc) ?_
    exact g_iret dX9_parse_116 rfl (Or.inr ⟨e, hz, rfl, I2, A2, hB, (hf 0 (Or.inl (by decide))).trans rfl, (hf 10 (Or.inl (by decide))).trans rfl, hp, fun i hi => (hf i (Or.inr hi)).trans (by rw [va_ne (by omega), va_ne (by omega), va_ne (by omega), va_ne (by omega), va_ne (by omega), va_ne (by omega), va_ne (by omega), va_ne (by omega)]), hA⟩)
  have K : ∀ (k : Nat) (D : Pl) (b0 b1 : Bool) (t : Tok) (I2 : Nat → Int32) (A2 : Nat → Nat → Int32) (g1 : Nat → va_E), n - kS t < k → t_is b n t → d_ok D → p_run b n k (D, b0, b1, t) = p_all b n → q_tk I2 t → q_fI (va_up (va_up (va_up (va_up (va_up (va_up (va_up (va_up I 0 (nI 0)) 11 (nI n)) 10 (nI 0)) 13 (nI 0)) 16 (nI 0)) 17 (-1)) 19 (nI 0)) 20 (nI 2)) I2 → I2 17 = -1 → I2 16 = nI 0 → I2 19 = nI (q_sn b0 b1) → q_fA A A2 → q_dr A2 D → bz_B L g g1 [(o, b_Mod E o I2 A2)] → bz_G l E mX9_parse (bz_R 24 0 0) L sz (bz_Fm E L sz (fun r g1 => (∃ (D : Pl) (k1 k2 : Bool) (t9 : Tok), p_all b n = .inl (D, k1, k2, t9) ∧ (r = some (.int (nI 0)) ∧ ∃ (I9 : Nat → Int32) (A9 : Nat → Nat → Int32), bz_B L g g1 [(o, b_Mod E o I9 A9)] ∧ I9 0 = nI 0 ∧ I9 10 = nI 0 ∧ I9 17 = -1 ∧ I9 27 = nI 0 ∧ m_pl A9 D ∧ (∀ m0 m1 : Nat → Int32, (∀ i, i < 16 → m0 i = nI (D.2.2.2.1 i)) → (∀ i, i < 16 → m1 i = nI (D.2.2.2.1 (16 + i))) → m_st (A9 1) (s_00 m0 m1)) ∧ A9 9 = A 9 ∧ A9 15 0 = nI 0 ∧ A9 15 1 = nI 0)) ∨ (∃ e : Nat × Nat, p_all b n = .inr e ∧ (r = some (.int (nI e.1)) ∧ ∃ (I9 : Nat → Int32) (A9 : Nat → Nat → Int32), bz_B L g g1 [(o, b_Mod E o I9 A9)] ∧ I9 0 = nI 0 ∧ I9 10 = nI 0 ∧ I9 17 = nI e.2 ∧ (∀ i, 21 < i → I9 i = I i) ∧ q_fA A A9)))) sz 0 0 L g1 72 [(2, .int (nI 1)), (0, .ref o)] [] := by
    intro k
    induction k with
    | zero => intro D b0 b1 t I2 A2 g2 hlt; omega
    | succ k ih =>
      intro D b0 b1 t I2 A2 g2 hlt ht hdo hR hq2 hf2 h172 h162 h192 hA2 hdr hB
      have h256 := ht.k256 hb
      have hle := ht.le
      have h112 : I2 11 = nI n := (hf2 11 (Or.inl (by decide))).trans rfl
      have h92 : ∀ i, i < 600 → A2 9 i = s8 (b i) := fun i hi => by rw [hA2.1 9 (by decide)]; exact h9 i hi
      by_cases hk0 : kK t = 0
      ·
        refine g_iload_n (q := 73) dX9_parse_72 rfl rfl ?_
        refine g_ifN_eq (q := 76) (t := 108) dX9_parse_73 rfl (by decide) (by omega) (fun c => absurd c (by omega)) (fun _ => ?_)
        refine g_aload_n (q := 77) dX9_parse_76 rfl rfl ?_
        refine gb_getf (q := 80) (j := 0) (i := 0) dX9_parse_77 rfl fl_X9_111 hB rfl rfl rfl rfl ?_
        refine g_eqi (v := nI (q_kk (kK t))) (hq2.2.2.1) ?_
        refine g_ifN_eq (q := 83) (t := 108) dX9_parse_80 rfl (by decide) (by have := q_kk_b (kK t); omega) (fun _ => ?_) (fun c => absurd ((q_kk_0 _ h256).mpr hk0) c)
        refine g_iload_n (q := 109) dX9_parse_108 rfl rfl ?_
        refine g_ifN_ne (q := 112) (t := 117) dX9_parse_109 rfl (by decide) (by omega) (fun _ => ?_) (fun c => absurd c (by omega))
        refine g_aload_n (q := 118) dX9_parse_117 rfl rfl ?_
        refine gb_callV (q := 121) (j := 0) (i := 0) dX9_parse_118 rfl kv_X9_64 (c_mliftsAll (I := I2) (A := A2) (hB.1.at (j := 0) rfl)) rfl (by decide) hB rfl rfl rfl rfl (bz_le rfl) (by decide) (by decide) (fun r g1 hQ => ?_)
        obtain ⟨rfl, h1⟩ := hQ
        have hB := hB.sp (j := 0) rfl 0 rfl h1 (bz_le rfl)
        refine g_aload_n (q := 122) dX9_parse_121 rfl rfl ?_
        refine gb_callV (q := 125) (j := 0) (i := 0) dX9_parse_122 rfl kv_X9_67 (c_mbegins (I := I2) (A := q_lift A2) (hB.1.at (j := 0) rfl)) rfl (by decide) hB rfl rfl rfl rfl (bz_le rfl) (by decide) (by decide) (fun r g1 hQ => ?_)
        obtain ⟨rfl, h1⟩ := hQ
        have hB := hB.sp (j := 0) rfl 0 rfl h1 (bz_le rfl)
        refine g_iconst (q := 126) (v := (nI 0)) dX9_parse_125 rfl (by decide) ?_
        exact g_iret dX9_parse_126 rfl (Or.inl ⟨D, b0, b1, t, by rw [p_run_0 hk0] at hR; exact hR.symm, rfl, va_up I2 27 (nI 0), (va_up (va_up (q_lift A2) 1 (q_n0 (q_lift A2 1) (q_lift A2 5))) 15 (upd (upd (q_lift A2 15) 0 (vp_nar .boolean (nI 0))) 1 (vp_nar .boolean (nI 0)))), hB, (hf2 0 (Or.inl (by decide))).trans rfl, (hf2 10 (Or.inl (by decide))).trans rfl, h172, rfl, q_lift_pl hdo hdr, fun m0 m1 h0 h1 => m_st_0 (fun i hi => (h0 i hi).trans ((q_lift_pl hdo hdr).2.2.1 i (by omega)).symm) (fun i hi => (h1 i hi).trans ((q_lift_pl hdo hdr).2.2.1 (16 + i) (by omega)).symm), (hA2.1 9 (by decide)), (show upd (upd (q_lift A2 15) 0 (vp_nar .boolean (nI 0))) 1 (vp_nar .boolean (nI 0)) 0 = nI 0 from (upd_ne (by decide)).trans upd_eq), (show upd (upd (q_lift A2 15) 0 (vp_nar .boolean (nI 0))) 1 (vp_nar .boolean (nI 0)) 1 = nI 0 from upd_eq)⟩)
      ·
        refine g_iload_n (q := 73) dX9_parse_72 rfl rfl ?_
        refine g_ifN_eq (q := 76) (t := 108) dX9_parse_73 rfl (by decide) (by omega) (fun c => absurd c (by omega)) (fun _ => ?_)
        refine g_aload_n (q := 77) dX9_parse_76 rfl rfl ?_
        refine gb_getf (q := 80) (j := 0) (i := 0) dX9_parse_77 rfl fl_X9_111 hB rfl rfl rfl rfl ?_
        refine g_eqi (v := nI (q_kk (kK t))) (hq2.2.2.1) ?_
        refine g_ifN_eq (q := 83) (t := 108) dX9_parse_80 rfl (by decide) (by have := q_kk_b (kK t); omega) (fun c => absurd ((q_kk_0 _ h256).mp c) hk0) (fun _ => ?_)
        refine g_aload_n (q := 84) dX9_parse_83 rfl rfl ?_
        refine gb_callV (q := 87) (j := 0) (i := 0) dX9_parse_84 rfl kv_X9_214 (c_mstatement (I := I2) (A := A2) (t := t) (D := D) (b0 := b0) (b1 := b1) hb hn h112 h92 ht hq2 h162 h192 hdo hdr (hB.1.at (j := 0) rfl)) rfl (by decide) hB rfl rfl rfl rfl (bz_le rfl) (by decide) (by decide) (fun r g1 hQ => ?_)
        rcases hQ with ⟨rfl, I4, A4, D4, k1, k2, t4, h1, hs4, hq4, hf4, h174, h164, h194, hA4, hdr4⟩ | ⟨rfl, I4, A4, e4, h1, hs4, hc4, hp4, hf4, hA4⟩
        · have hB := hB.sp (j := 0) rfl 0 rfl h1 (bz_le rfl)
          have hl4 : d_ok D4 ∧ t_is b n t4 ∧ n - kS t4 < n - kS t := p_stmt_l hn hdo ht hs4
          by_cases h59 : kK t4 = 59
          ·
            refine g_ifN_eq (q := 90) (t := 103) dX9_parse_87 rfl (by decide) (by omega) (fun c => absurd c (by omega)) (fun _ => ?_)
            refine g_aload_n (q := 91) dX9_parse_90 rfl rfl ?_
            refine g_bipush (q := 93) (v := (nI 59)) dX9_parse_91 rfl (by decide) ?_
            refine gb_callV (q := 96) (j := 0) (i := 0) dX9_parse_93 rfl kv_X9_195 (c_mcloses0 (I := I4) (A := A4) (t := t4) (c := 59) hb hn ((hf4 11 (Or.inl (by decide))).trans h112) (fun i hi => by rw [hA4.1 9 (by decide)]; exact h92 i hi) (by decide) hl4.2.1 hq4 h59 (hB.1.at (j := 0) rfl)) rfl (by decide) hB rfl rfl rfl rfl (bz_le rfl) (by decide) (by decide) (fun r g1 hQ => ?_)
            obtain ⟨rfl, I6, h1, hq6, hf6⟩ := hQ
            have hB := hB.sp (j := 0) rfl 0 rfl h1 (bz_le rfl)
            refine g_ifN_eq (q := 99) (t := 103) dX9_parse_96 rfl (by decide) (by omega) (fun c => absurd c (by omega)) (fun _ => ?_)
            refine g_iconst (q := 100) (v := (nI 1)) dX9_parse_99 rfl (by decide) ?_
            refine g_goto (q := 104) dX9_parse_100 (by decide) ?_
            refine g_istore_n (q := 105) rfl dX9_parse_104 rfl (by decide) rfl ?_
            refine g_goto (q := 72) dX9_parse_105 (by decide) ?_
            refine g_lvs (lv1 := [(2, .int (nI 1)), (0, .ref o)]) ⟨rfl, rfl, trivial⟩ ?_
            rw [p_run_i hk0 (p_one_i hs4 h59)] at hR
            have hx6 := t_nx_is hl4.2.1
            have hle6 := hl4.2.1.le
            exact ih D4 k1 k2 (t_nx b n t4) I6 A4 _ (by have h7 : n - kS t4 < n - kS t := hl4.2.2; omega) hx6.1 hl4.1 hR hq6 (fun i hi => (hf6 i (by unfold q_o; omega)).trans ((hf4 i hi).trans (hf2 i hi))) ((hf6 17 (Or.inr (by decide))).trans (h174.trans h172)) ((hf6 16 (Or.inr (by decide))).trans h164) ((hf6 19 (Or.inr (by decide))).trans h194) (hA2.tr hA4) hdr4 hB
          ·
            refine g_ifN_eq (q := 90) (t := 103) dX9_parse_87 rfl (by decide) (by omega) (fun c => absurd c (by omega)) (fun _ => ?_)
            refine g_aload_n (q := 91) dX9_parse_90 rfl rfl ?_
            refine g_bipush (q := 93) (v := (nI 59)) dX9_parse_91 rfl (by decide) ?_
            refine gb_callV (q := 96) (j := 0) (i := 0) dX9_parse_93 rfl kv_X9_195 (c_mcloses1 (I := I4) (A := A4) (t := t4) (c := 59) hb (by decide) hl4.2.1 hq4 h164 h59 (hB.1.at (j := 0) rfl)) rfl (by decide) hB rfl rfl rfl rfl (bz_le rfl) (by decide) (by decide) (fun r g1 hQ => ?_)
            obtain ⟨rfl, h1⟩ := hQ
            have hB := hB.sp (j := 0) rfl 0 rfl h1 (bz_le rfl)
            refine g_ifN_eq (q := 99) (t := 103) dX9_parse_96 rfl (by decide) (by omega) (fun _ => ?_) (fun c => absurd c (by omega))
            refine g_iconst (q := 104) (v := (nI 0)) dX9_parse_103 rfl (by decide) ?_
            refine g_istore_n (q := 105) rfl dX9_parse_104 rfl (by decide) rfl ?_
            refine g_goto (q := 72) dX9_parse_105 (by decide) ?_
            refine g_lvs (lv1 := [(2, .int (nI 0)), (0, .ref o)]) ⟨rfl, rfl, trivial⟩ ?_
            rw [p_run_e hk0 (p_one_s hs4 h59)] at hR
            exact KX (1, kS t4) _ A4 _ hR.symm rfl rfl (fun i hi => (q_fI.er i hi).trans ((hf4 i hi).trans (hf2 i hi))) (hA2.tr hA4) hB
        · have hB := hB.sp (j := 0) rfl 0 rfl h1 (bz_le rfl)
          refine g_ifN_eq (q := 90) (t := 103) dX9_parse_87 rfl (by decide) (by omega) (fun _ => ?_) (fun c => absurd c (by omega))
          refine g_iconst (q := 104) (v := (nI 0)) dX9_parse_103 rfl (by decide) ?_
          refine g_istore_n (q := 105) rfl dX9_parse_104 rfl (by decide) rfl ?_
          refine g_goto (q := 72) dX9_parse_105 (by decide) ?_
          refine g_lvs (lv1 := [(2, .int (nI 0)), (0, .ref o)]) ⟨rfl, rfl, trivial⟩ ?_
          rw [p_run_e hk0 (p_one_e hs4)] at hR
          exact KX e4 I4 A4 _ hR.symm hc4 hp4 (fun i hi => (hf4 i hi).trans (hf2 i hi)) (hA2.tr hA4) hB
  refine g_aload_n (q := 1) dX9_parse_0 rfl rfl ?_
  refine g_iconst (q := 2) (v := (nI 0)) dX9_parse_1 rfl (by decide) ?_
  refine gb_putf (q := 5) (j := 0) (i := 0) dX9_parse_2 rfl fp_X9_70 hB rfl rfl rfl (bz_le rfl) rfl rfl (fun g hB => ?_)
  refine g_aload_n (q := 6) dX9_parse_5 rfl rfl ?_
  refine g_iload_n (q := 7) dX9_parse_6 rfl rfl ?_
  refine g_iconst (q := 8) (v := (nI 0)) dX9_parse_7 rfl (by decide) ?_
  refine g_aload_n (q := 9) dX9_parse_8 rfl rfl ?_
  refine gb_getf (q := 12) (j := 0) (i := 0) dX9_parse_9 rfl fl_X9_88 hB rfl rfl rfl rfl ?_
  refine g_eqi (v := nI (len)) (h10) ?_
  refine g_callS (q := 15) dX9_parse_12 rfl ks_X9_114 rfl (c_mwithin (v := nI n) (lo := nI 0) (hi := nI len)) (by decide) rfl (bz_le rfl) (by decide) (by decide) (fun r g1 hQ => ?_)
  obtain ⟨rfl, hg⟩ := hQ
  have hg := hg.symm
  subst hg
  refine g_eqi (v := nI 1) (by rw [q_wi (by omega) (by omega) (by omega), decide_eq_true (by omega)]; rfl) ?_
  refine g_if_ne (q := 18) (t := 22) dX9_parse_15 rfl (by decide) (fun _ => ?_) (fun c => absurd c (by decide))
  refine g_iconst (q := 23) (v := (nI 0)) dX9_parse_22 rfl (by decide) ?_
  refine g_iconst (q := 24) (v := (nI 1)) dX9_parse_23 rfl (by decide) ?_
  refine gb_callV (q := 27) (j := 0) (i := 0) dX9_parse_24 rfl kv_X9_210 (c_mthrowsIf0 (I := va_up I 0 (nI 0)) (A := A) (k := 1) rfl (hB.1.at (j := 0) rfl)) rfl (by decide) hB rfl rfl rfl rfl (bz_le rfl) (by decide) (by decide) (fun r g1 hQ => ?_)
  obtain ⟨rfl, hg⟩ := hQ
  have hg := hg.symm
  subst hg
  refine g_ifN_eq (q := 30) (t := 32) dX9_parse_27 rfl (by decide) (by omega) (fun _ => ?_) (fun c => absurd c (by omega))
  refine g_aload_n (q := 33) dX9_parse_32 rfl rfl ?_
  refine g_iload_n (q := 34) dX9_parse_33 rfl rfl ?_
  refine gb_putf (q := 37) (j := 0) (i := 0) dX9_parse_34 rfl fp_X9_95 hB rfl rfl rfl (bz_le rfl) rfl rfl (fun g hB => ?_)
  refine g_aload_n (q := 38) dX9_parse_37 rfl rfl ?_
  refine g_iconst (q := 39) (v := (nI 0)) dX9_parse_38 rfl (by decide) ?_
  refine gb_putf (q := 42) (j := 0) (i := 0) dX9_parse_39 rfl fp_X9_88 hB rfl rfl rfl (bz_le rfl) rfl rfl (fun g hB => ?_)
  refine g_aload_n (q := 43) dX9_parse_42 rfl rfl ?_
  refine g_iconst (q := 44) (v := (nI 0)) dX9_parse_43 rfl (by decide) ?_
  refine gb_putf (q := 47) (j := 0) (i := 0) dX9_parse_44 rfl fp_X9_98 hB rfl rfl rfl (bz_le rfl) rfl rfl (fun g hB => ?_)
  refine g_aload_n (q := 48) dX9_parse_47 rfl rfl ?_
  refine g_iconst (q := 49) (v := (nI 0)) dX9_parse_48 rfl (by decide) ?_
  refine gb_putf (q := 52) (j := 0) (i := 0) dX9_parse_49 rfl fp_X9_130 hB rfl rfl rfl (bz_le rfl) rfl rfl (fun g hB => ?_)
  refine g_aload_n (q := 53) dX9_parse_52 rfl rfl ?_
  refine g_iconst (q := 54) (v := (-1)) dX9_parse_53 rfl (by decide) ?_
  refine gb_putf (q := 57) (j := 0) (i := 0) dX9_parse_54 rfl fp_X9_38 hB rfl rfl rfl (bz_le rfl) rfl rfl (fun g hB => ?_)
  refine g_aload_n (q := 58) dX9_parse_57 rfl rfl ?_
  refine g_iconst (q := 59) (v := (nI 0)) dX9_parse_58 rfl (by decide) ?_
  refine gb_putf (q := 62) (j := 0) (i := 0) dX9_parse_59 rfl fp_X9_145 hB rfl rfl rfl (bz_le rfl) rfl rfl (fun g hB => ?_)
  refine g_aload_n (q := 63) dX9_parse_62 rfl rfl ?_
  refine gb_callV (q := 66) (j := 0) (i := 0) dX9_parse_63 rfl kv_X9_61 (c_mclearDraft (I := (va_up (va_up (va_up (va_up (va_up (va_up (va_up I 0 (nI 0)) 11 (nI n)) 10 (nI 0)) 13 (nI 0)) 16 (nI 0)) 17 (-1)) 19 (nI 0))) (A := A) (hB.1.at (j := 0) rfl)) rfl (by decide) hB rfl rfl rfl rfl (bz_le rfl) (by decide) (by decide) (fun r g1 hQ => ?_)
  obtain ⟨rfl, h1⟩ := hQ
  have hB := hB.sp (j := 0) rfl 0 rfl h1 (bz_le rfl)
  refine g_aload_n (q := 67) dX9_parse_66 rfl rfl ?_
  refine gb_callV (q := 70) (j := 0) (i := 0) dX9_parse_67 rfl kv_X9_139 (c_madvance (I := (va_up (va_up (va_up (va_up (va_up (va_up (va_up (va_up I 0 (nI 0)) 11 (nI n)) 10 (nI 0)) 13 (nI 0)) 16 (nI 0)) 17 (-1)) 19 (nI 0)) 20 (nI 2))) (A := (q_c0 (q_c0 (q_cd A) 0) 1)) (b := b) (n := n) (p := 0) hb hn rfl (fun i hi => by rw [q_cd_fA.1 9 (by decide)]; exact h9 i hi) (by omega) rfl (hB.1.at (j := 0) rfl)) rfl (by decide) hB rfl rfl rfl rfl (bz_le rfl) (by decide) (by decide) (fun r g1 hQ => ?_)
  obtain ⟨rfl, I3, t3, h1, rfl, hq3, hf3⟩ := hQ
  have hB := hB.sp (j := 0) rfl 0 rfl h1 (bz_le rfl)
  refine g_iconst (q := 71) (v := (nI 1)) dX9_parse_70 rfl (by decide) ?_
  refine g_istore_n (q := 72) rfl dX9_parse_71 rfl (by decide) rfl ?_
  refine g_lvs (lv1 := [(2, .int (nI 1)), (0, .ref o)]) ⟨rfl, rfl, trivial⟩ ?_
  exact K 601 d_0 false false (t_tok b n 0) I3 (q_c0 (q_c0 (q_cd A) 0) 1) _ (by omega) (t_tok_is (Nat.zero_le n)).1 d_0_ok rfl hq3 (fun i hi => hf3 i (by unfold q_o; omega)) (hf3 17 (Or.inr (by decide))) (hf3 16 (Or.inr (by decide))) (hf3 19 (Or.inr (by decide))) q_cd_fA q_cd_dr hB
