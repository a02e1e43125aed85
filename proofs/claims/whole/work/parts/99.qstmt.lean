/-! the reference: setsOnce, statement -/
theorem q_sumok {b : Nat → Nat} {n : Nat} {t t1 : Tok} {u1 : List Int32} (h : q_RS b n [] [] t u1 t1) (ht : t_is b n t) (hn : n ≤ 600) : x_run b n 601 (true, [], [], t) = some (.inl (u1, t1)) := by
  obtain ⟨S2, u2, hi, -, hfl, hr, hfin⟩ := h
  have ho : x_open S2 = 0 := by
    have := x_fl_open (r := 1) (Nat.le_refl 1) S2 u2
    rw [hfl] at this
    exact this.symm
  have hs := x_step_e (b := b) (n := n) (S := S2) (u := u2) (t := t1) hr (fun _ => ho)
  rw [if_neg (by omega), hfl] at hs
  exact x_fin_run (hfin _ (x_fin_r hs)) ht (by show n - kS t < 601; omega)
theorem q_sumno {b : Nat → Nat} {n : Nat} {t : Tok} {e : Nat × Nat} (h : x_fin b n (true, [], [], t) (.inr e)) (ht : t_is b n t) (hn : n ≤ 600) : x_run b n 601 (true, [], [], t) = some (.inr e) := x_fin_run h ht (by show n - kS t < 601; omega)
set_option maxRecDepth 20000 in
set_option maxHeartbeats 1000000 in
theorem c_msets0_2 {l : Launch} {E : bz_E} {L : List Nat} {g : Nat → va_E} {o : Nat} {I : Nat → Int32} {A : Nat → Nat → Int32} {b : Nat → Nat} {n : Nat} {t : Tok} {b1 : Bool} (hb : ∀ i, b i < 256) (ht : t_is b n t) (hq : q_tk I t) (h16 : I 16 = nI 0) (h19 : I 19 = nI (q_sn true b1)) (hH : bz_H L g o (b_Mod E o I A)) : bz_K l E mX9_setsOnce 3 [.ref o, .int (nI 0), .int (nI 1), .int (nI 4)] L g (fun r g1 => r = some (.int (nI 0)) ∧ ∃ I1 : Nat → Int32, bz_B L g g1 [(o, b_Mod E o I1 A)] ∧ I1 16 = nI ((2, kS t) : Nat × Nat).1 ∧ I1 17 = nI ((2, kS t) : Nat × Nat).2 ∧ q_fI I I1) := by
  refine bz_K.of (by decide) (bz_le rfl) (fun sz => ?_)
  have hB := bz_B.rf (bz_W.one hH)
  show bz_G _ _ _ _ _ _ _ _ _ _ _ _ 0 [(0, .ref o), (1, .int (nI 0)), (2, .int (nI 1)), (3, .int (nI 4))] []
  refine g_aload_n (q := 1) dX9_setsOnce_0 rfl rfl ?_
  refine g_iconst (q := 2) (v := (nI 2)) dX9_setsOnce_1 rfl (by decide) ?_
  refine g_aload_n (q := 3) dX9_setsOnce_2 rfl rfl ?_
  refine gb_getf (q := 6) (j := 0) (i := 0) dX9_setsOnce_3 rfl fl_X9_145 hB rfl rfl rfl rfl ?_
  refine g_eqi (v := nI (q_sn true b1)) (h19) ?_
  refine g_iload_n (q := 7) dX9_setsOnce_6 rfl rfl ?_
  refine g_callS (q := 10) dX9_setsOnce_7 rfl ks_X9_148 rfl (c_mhas (x := nI (q_sn true b1)) (b := nI 0)) (by decide) rfl (bz_le rfl) (by decide) (by decide) (fun r g1 hQ => ?_)
  obtain ⟨rfl, hg⟩ := hQ
  have hg := hg.symm
  subst hg
  refine g_eqi (v := nI 1) (q_sn_h0 true b1) ?_
  refine g_if_ne (q := 13) (t := 17) dX9_setsOnce_10 rfl (by decide) (fun _ => ?_) (fun c => absurd c (by decide))
  refine g_iconst (q := 18) (v := (nI 0)) dX9_setsOnce_17 rfl (by decide) ?_
  refine gb_callV (q := 21) (j := 0) (i := 0) dX9_setsOnce_18 rfl kv_X9_151 (c_mstarts1 (I := I) (A := A) (t := t) (c := 2) ht hq h16 (hB.1.at (j := 0) rfl)) rfl (by decide) hB rfl rfl rfl rfl (bz_le rfl) (by decide) (by decide) (fun r g1 hQ => ?_)
  obtain ⟨rfl, h1⟩ := hQ
  have hB := hB.sp (j := 0) rfl 0 rfl h1 (bz_le rfl)
  refine g_ifN_ne (q := 24) (t := 26) dX9_setsOnce_21 rfl (by decide) (by omega) (fun c => absurd c (by omega)) (fun _ => ?_)
  refine g_iconst (q := 25) (v := (nI 0)) dX9_setsOnce_24 rfl (by decide) ?_
  exact g_zret dX9_setsOnce_25 rfl rfl ⟨rfl, va_up (va_up I 16 (nI 2)) 17 (nI (kS t)), hB, rfl, rfl, q_fI.er⟩
set_option maxRecDepth 20000 in
set_option maxHeartbeats 1000000 in
theorem c_msets0_0 {l : Launch} {E : bz_E} {L : List Nat} {g : Nat → va_E} {o : Nat} {I : Nat → Int32} {A : Nat → Nat → Int32} {b : Nat → Nat} {n : Nat} {t : Tok} {b1 : Bool} {z : Nat × Tok} (hb : ∀ i, b i < 256) (hn : n ≤ 600) (h11 : I 11 = nI n) (h9 : ∀ i, i < 600 → A 9 i = s8 (b i)) (ht : t_is b n t) (hq : q_tk I t) (h16 : I 16 = nI 0) (h19 : I 19 = nI (q_sn false b1)) (hp : p_num b n 1 4 (t_nx b n t) = .inl z) (hH : bz_H L g o (b_Mod E o I A)) : bz_K l E mX9_setsOnce 3 [.ref o, .int (nI 0), .int (nI 1), .int (nI 4)] L g (fun r g1 => r = some (.int (nI 1)) ∧ ∃ I1 : Nat → Int32, bz_B L g g1 [(o, b_Mod E o I1 (va_up A 6 (upd (A 6) (2 + 0) (nI z.1))))] ∧ q_tk I1 z.2 ∧ I1 19 = nI (q_sn true b1) ∧ ∀ i, q_o i → i ≠ 18 → i ≠ 19 → I1 i = I i) := by
  refine bz_K.of (by decide) (bz_le rfl) (fun sz => ?_)
  have hB := bz_B.rf (bz_W.one hH)
  show bz_G _ _ _ _ _ _ _ _ _ _ _ _ 0 [(0, .ref o), (1, .int (nI 0)), (2, .int (nI 1)), (3, .int (nI 4))] []
  refine g_aload_n (q := 1) dX9_setsOnce_0 rfl rfl ?_
  refine g_iconst (q := 2) (v := (nI 2)) dX9_setsOnce_1 rfl (by decide) ?_
  refine g_aload_n (q := 3) dX9_setsOnce_2 rfl rfl ?_
  refine gb_getf (q := 6) (j := 0) (i := 0) dX9_setsOnce_3 rfl fl_X9_145 hB rfl rfl rfl rfl ?_
  refine g_eqi (v := nI (q_sn false b1)) (h19) ?_
  refine g_iload_n (q := 7) dX9_setsOnce_6 rfl rfl ?_
  refine g_callS (q := 10) dX9_setsOnce_7 rfl ks_X9_148 rfl (c_mhas (x := nI (q_sn false b1)) (b := nI 0)) (by decide) rfl (bz_le rfl) (by decide) (by decide) (fun r g1 hQ => ?_)
  obtain ⟨rfl, hg⟩ := hQ
  have hg := hg.symm
  subst hg
  refine g_eqi (v := nI 0) (q_sn_h0 false b1) ?_
  refine g_if_ne (q := 13) (t := 17) dX9_setsOnce_10 rfl (by decide) (fun c => absurd c (fun q => q rfl)) (fun _ => ?_)
  refine g_iconst (q := 14) (v := (nI 1)) dX9_setsOnce_13 rfl (by decide) ?_
  refine g_goto (q := 18) dX9_setsOnce_14 (by decide) ?_
  refine gb_callV (q := 21) (j := 0) (i := 0) dX9_setsOnce_18 rfl kv_X9_151 (c_mstarts0 (I := I) (A := A) (t := t) (c := 2) hb hn h11 h9 ht hq (hB.1.at (j := 0) rfl)) rfl (by decide) hB rfl rfl rfl rfl (bz_le rfl) (by decide) (by decide) (fun r g1 hQ => ?_)
  obtain ⟨rfl, I1, h1, hq1, hf1⟩ := hQ
  have hB := hB.sp (j := 0) rfl 0 rfl h1 (bz_le rfl)
  have htn : t_is b n (t_nx b n t) := (t_nx_is ht).1
  refine g_ifN_ne (q := 24) (t := 26) dX9_setsOnce_21 rfl (by decide) (by omega) (fun _ => ?_) (fun c => absurd c (by omega))
  refine g_aload_n (q := 27) dX9_setsOnce_26 rfl rfl ?_
  refine g_dup (q := 28) dX9_setsOnce_27 rfl rfl ?_
  refine gb_getf (q := 31) (j := 0) (i := 0) dX9_setsOnce_28 rfl fl_X9_145 hB rfl rfl rfl rfl ?_
  refine g_eqi (v := nI (q_sn false b1)) ((hf1 19 (Or.inr (by decide))).trans h19) ?_
  refine g_iconst (q := 32) (v := (nI 1)) dX9_setsOnce_31 rfl (by decide) ?_
  refine g_iload_n (q := 33) dX9_setsOnce_32 rfl rfl ?_
  refine g_ishl (q := 34) dX9_setsOnce_33 rfl ?_
  refine g_ior (q := 35) dX9_setsOnce_34 rfl ?_
  refine g_eqi (v := nI (q_sn true b1)) (q_sn_s0 false b1) ?_
  refine gb_putf (q := 38) (j := 0) (i := 0) dX9_setsOnce_35 rfl fp_X9_145 hB rfl rfl rfl (bz_le rfl) rfl rfl (fun g hB => ?_)
  refine g_aload_n (q := 39) dX9_setsOnce_38 rfl rfl ?_
  refine g_iload_n (q := 40) dX9_setsOnce_39 rfl rfl ?_
  refine g_iload_n (q := 41) dX9_setsOnce_40 rfl rfl ?_
  refine gb_callV (q := 44) (j := 0) (i := 0) dX9_setsOnce_41 rfl kv_X9_155 (c_mtakes0 (I := (va_up I1 19 (nI (q_sn true b1)))) (A := A) (t := t_nx b n t) (lo := 1) (hi := 4) (z := z) hb hn ((hf1 11 (Or.inl (by decide))).trans h11) h9 (by decide) (by decide) htn hq1 hp (hB.1.at (j := 0) rfl)) rfl (by decide) hB rfl rfl rfl rfl (bz_le rfl) (by decide) (by decide) (fun r g1 hQ => ?_)
  obtain ⟨rfl, I3, h1, hq3, h183, hf3⟩ := hQ
  have hB := hB.sp (j := 0) rfl 0 rfl h1 (bz_le rfl)
  refine g_ifN_ne (q := 47) (t := 49) dX9_setsOnce_44 rfl (by decide) (by omega) (fun _ => ?_) (fun c => absurd c (by omega))
  refine g_aload_n (q := 50) dX9_setsOnce_49 rfl rfl ?_
  refine gb_getf (q := 53) (j := 0) (i := 0) dX9_setsOnce_50 rfl fl_X9_25 hB rfl rfl rfl rfl ?_
  refine g_iconst (q := 54) (v := (nI 2)) dX9_setsOnce_53 rfl (by decide) ?_
  refine g_iload_n (q := 55) dX9_setsOnce_54 rfl rfl ?_
  refine g_iaddN (q := 56) dX9_setsOnce_55 rfl ?_
  refine g_aload_n (q := 57) dX9_setsOnce_56 rfl rfl ?_
  refine gb_getf (q := 60) (j := 0) (i := 0) dX9_setsOnce_57 rfl fl_X9_136 hB rfl rfl rfl rfl ?_
  refine g_eqi (v := nI (z.1)) (h183) ?_
  refine gb_iastN (q := 61) (j := 0) (i := 6) dX9_setsOnce_60 rfl hB rfl rfl rfl (by decide) (by decide) (fun g hB => ?_)
  refine g_iconst (q := 62) (v := (nI 1)) dX9_setsOnce_61 rfl (by decide) ?_
  exact g_zret dX9_setsOnce_62 rfl rfl ⟨rfl, I3, hB, hq3, hf3 19 (Or.inr (by decide)) (by decide), fun i h1 h2 h3 => (hf3 i h1 h2).trans ((va_ne h3).trans (hf1 i h1))⟩
set_option maxRecDepth 20000 in
set_option maxHeartbeats 1000000 in
theorem c_msets0_1 {l : Launch} {E : bz_E} {L : List Nat} {g : Nat → va_E} {o : Nat} {I : Nat → Int32} {A : Nat → Nat → Int32} {b : Nat → Nat} {n : Nat} {t : Tok} {b1 : Bool} {z : Nat × Nat} (hb : ∀ i, b i < 256) (hn : n ≤ 600) (h11 : I 11 = nI n) (h9 : ∀ i, i < 600 → A 9 i = s8 (b i)) (ht : t_is b n t) (hq : q_tk I t) (h16 : I 16 = nI 0) (h19 : I 19 = nI (q_sn false b1)) (hp : p_num b n 1 4 (t_nx b n t) = .inr z) (hH : bz_H L g o (b_Mod E o I A)) : bz_K l E mX9_setsOnce 3 [.ref o, .int (nI 0), .int (nI 1), .int (nI 4)] L g (fun r g1 => r = some (.int (nI 0)) ∧ ∃ I1 : Nat → Int32, bz_B L g g1 [(o, b_Mod E o I1 A)] ∧ I1 16 = nI z.1 ∧ I1 17 = nI z.2 ∧ q_fI I I1) := by
  refine bz_K.of (by decide) (bz_le rfl) (fun sz => ?_)
  have hB := bz_B.rf (bz_W.one hH)
  show bz_G _ _ _ _ _ _ _ _ _ _ _ _ 0 [(0, .ref o), (1, .int (nI 0)), (2, .int (nI 1)), (3, .int (nI 4))] []
  refine g_aload_n (q := 1) dX9_setsOnce_0 rfl rfl ?_
  refine g_iconst (q := 2) (v := (nI 2)) dX9_setsOnce_1 rfl (by decide) ?_
  refine g_aload_n (q := 3) dX9_setsOnce_2 rfl rfl ?_
  refine gb_getf (q := 6) (j := 0) (i := 0) dX9_setsOnce_3 rfl fl_X9_145 hB rfl rfl rfl rfl ?_
  refine g_eqi (v := nI (q_sn false b1)) (h19) ?_
  refine g_iload_n (q := 7) dX9_setsOnce_6 rfl rfl ?_
  refine g_callS (q := 10) dX9_setsOnce_7 rfl ks_X9_148 rfl (c_mhas (x := nI (q_sn false b1)) (b := nI 0)) (by decide) rfl (bz_le rfl) (by decide) (by decide) (fun r g1 hQ => ?_)
  obtain ⟨rfl, hg⟩ := hQ
  have hg := hg.symm
  subst hg
  refine g_eqi (v := nI 0) (q_sn_h0 false b1) ?_
  refine g_if_ne (q := 13) (t := 17) dX9_setsOnce_10 rfl (by decide) (fun c => absurd c (fun q => q rfl)) (fun _ => ?_)
  refine g_iconst (q := 14) (v := (nI 1)) dX9_setsOnce_13 rfl (by decide) ?_
  refine g_goto (q := 18) dX9_setsOnce_14 (by decide) ?_
  refine gb_callV (q := 21) (j := 0) (i := 0) dX9_setsOnce_18 rfl kv_X9_151 (c_mstarts0 (I := I) (A := A) (t := t) (c := 2) hb hn h11 h9 ht hq (hB.1.at (j := 0) rfl)) rfl (by decide) hB rfl rfl rfl rfl (bz_le rfl) (by decide) (by decide) (fun r g1 hQ => ?_)
  obtain ⟨rfl, I1, h1, hq1, hf1⟩ := hQ
  have hB := hB.sp (j := 0) rfl 0 rfl h1 (bz_le rfl)
  have htn : t_is b n (t_nx b n t) := (t_nx_is ht).1
  refine g_ifN_ne (q := 24) (t := 26) dX9_setsOnce_21 rfl (by decide) (by omega) (fun _ => ?_) (fun c => absurd c (by omega))
  refine g_aload_n (q := 27) dX9_setsOnce_26 rfl rfl ?_
  refine g_dup (q := 28) dX9_setsOnce_27 rfl rfl ?_
  refine gb_getf (q := 31) (j := 0) (i := 0) dX9_setsOnce_28 rfl fl_X9_145 hB rfl rfl rfl rfl ?_
  refine g_eqi (v := nI (q_sn false b1)) ((hf1 19 (Or.inr (by decide))).trans h19) ?_
  refine g_iconst (q := 32) (v := (nI 1)) dX9_setsOnce_31 rfl (by decide) ?_
  refine g_iload_n (q := 33) dX9_setsOnce_32 rfl rfl ?_
  refine g_ishl (q := 34) dX9_setsOnce_33 rfl ?_
  refine g_ior (q := 35) dX9_setsOnce_34 rfl ?_
  refine g_eqi (v := nI (q_sn true b1)) (q_sn_s0 false b1) ?_
  refine gb_putf (q := 38) (j := 0) (i := 0) dX9_setsOnce_35 rfl fp_X9_145 hB rfl rfl rfl (bz_le rfl) rfl rfl (fun g hB => ?_)
  refine g_aload_n (q := 39) dX9_setsOnce_38 rfl rfl ?_
  refine g_iload_n (q := 40) dX9_setsOnce_39 rfl rfl ?_
  refine g_iload_n (q := 41) dX9_setsOnce_40 rfl rfl ?_
  refine gb_callV (q := 44) (j := 0) (i := 0) dX9_setsOnce_41 rfl kv_X9_155 (c_mtakes1 (I := (va_up I1 19 (nI (q_sn true b1)))) (A := A) (t := t_nx b n t) (lo := 1) (hi := 4) (e := z) hb hn ((hf1 11 (Or.inl (by decide))).trans h11) h9 (by decide) (by decide) htn hq1 ((hf1 16 (Or.inr (by decide))).trans h16) hp (hB.1.at (j := 0) rfl)) rfl (by decide) hB rfl rfl rfl rfl (bz_le rfl) (by decide) (by decide) (fun r g1 hQ => ?_)
  obtain ⟨rfl, h1⟩ := hQ
  have hB := hB.sp (j := 0) rfl 0 rfl h1 (bz_le rfl)
  refine g_ifN_ne (q := 47) (t := 49) dX9_setsOnce_44 rfl (by decide) (by omega) (fun c => absurd c (by omega)) (fun _ => ?_)
  refine g_iconst (q := 48) (v := (nI 0)) dX9_setsOnce_47 rfl (by decide) ?_
  exact g_zret dX9_setsOnce_48 rfl rfl ⟨rfl, va_up (va_up (va_up I1 19 (nI (q_sn true b1))) 16 (nI z.1)) 17 (nI z.2), hB, rfl, rfl, fun i hi => (q_fI.er i hi).trans ((va_ne (by omega)).trans (hf1 i (by unfold q_o; omega)))⟩
set_option maxRecDepth 20000 in
set_option maxHeartbeats 1000000 in
theorem c_msets1_2 {l : Launch} {E : bz_E} {L : List Nat} {g : Nat → va_E} {o : Nat} {I : Nat → Int32} {A : Nat → Nat → Int32} {b : Nat → Nat} {n : Nat} {t : Tok} {b0 : Bool} (hb : ∀ i, b i < 256) (ht : t_is b n t) (hq : q_tk I t) (h16 : I 16 = nI 0) (h19 : I 19 = nI (q_sn b0 true)) (hH : bz_H L g o (b_Mod E o I A)) : bz_K l E mX9_setsOnce 3 [.ref o, .int (nI 1), .int (nI 1), .int (nI 8)] L g (fun r g1 => r = some (.int (nI 0)) ∧ ∃ I1 : Nat → Int32, bz_B L g g1 [(o, b_Mod E o I1 A)] ∧ I1 16 = nI ((2, kS t) : Nat × Nat).1 ∧ I1 17 = nI ((2, kS t) : Nat × Nat).2 ∧ q_fI I I1) := by
  refine bz_K.of (by decide) (bz_le rfl) (fun sz => ?_)
  have hB := bz_B.rf (bz_W.one hH)
  show bz_G _ _ _ _ _ _ _ _ _ _ _ _ 0 [(0, .ref o), (1, .int (nI 1)), (2, .int (nI 1)), (3, .int (nI 8))] []
  refine g_aload_n (q := 1) dX9_setsOnce_0 rfl rfl ?_
  refine g_iconst (q := 2) (v := (nI 2)) dX9_setsOnce_1 rfl (by decide) ?_
  refine g_aload_n (q := 3) dX9_setsOnce_2 rfl rfl ?_
  refine gb_getf (q := 6) (j := 0) (i := 0) dX9_setsOnce_3 rfl fl_X9_145 hB rfl rfl rfl rfl ?_
  refine g_eqi (v := nI (q_sn b0 true)) (h19) ?_
  refine g_iload_n (q := 7) dX9_setsOnce_6 rfl rfl ?_
  refine g_callS (q := 10) dX9_setsOnce_7 rfl ks_X9_148 rfl (c_mhas (x := nI (q_sn b0 true)) (b := nI 1)) (by decide) rfl (bz_le rfl) (by decide) (by decide) (fun r g1 hQ => ?_)
  obtain ⟨rfl, hg⟩ := hQ
  have hg := hg.symm
  subst hg
  refine g_eqi (v := nI 1) (q_sn_h1 b0 true) ?_
  refine g_if_ne (q := 13) (t := 17) dX9_setsOnce_10 rfl (by decide) (fun _ => ?_) (fun c => absurd c (by decide))
  refine g_iconst (q := 18) (v := (nI 0)) dX9_setsOnce_17 rfl (by decide) ?_
  refine gb_callV (q := 21) (j := 0) (i := 0) dX9_setsOnce_18 rfl kv_X9_151 (c_mstarts1 (I := I) (A := A) (t := t) (c := 2) ht hq h16 (hB.1.at (j := 0) rfl)) rfl (by decide) hB rfl rfl rfl rfl (bz_le rfl) (by decide) (by decide) (fun r g1 hQ => ?_)
  obtain ⟨rfl, h1⟩ := hQ
  have hB := hB.sp (j := 0) rfl 0 rfl h1 (bz_le rfl)
  refine g_ifN_ne (q := 24) (t := 26) dX9_setsOnce_21 rfl (by decide) (by omega) (fun c => absurd c (by omega)) (fun _ => ?_)
  refine g_iconst (q := 25) (v := (nI 0)) dX9_setsOnce_24 rfl (by decide) ?_
  exact g_zret dX9_setsOnce_25 rfl rfl ⟨rfl, va_up (va_up I 16 (nI 2)) 17 (nI (kS t)), hB, rfl, rfl, q_fI.er⟩
set_option maxRecDepth 20000 in
set_option maxHeartbeats 1000000 in
theorem c_msets1_0 {l : Launch} {E : bz_E} {L : List Nat} {g : Nat → va_E} {o : Nat} {I : Nat → Int32} {A : Nat → Nat → Int32} {b : Nat → Nat} {n : Nat} {t : Tok} {b0 : Bool} {z : Nat × Tok} (hb : ∀ i, b i < 256) (hn : n ≤ 600) (h11 : I 11 = nI n) (h9 : ∀ i, i < 600 → A 9 i = s8 (b i)) (ht : t_is b n t) (hq : q_tk I t) (h16 : I 16 = nI 0) (h19 : I 19 = nI (q_sn b0 false)) (hp : p_num b n 1 8 (t_nx b n t) = .inl z) (hH : bz_H L g o (b_Mod E o I A)) : bz_K l E mX9_setsOnce 3 [.ref o, .int (nI 1), .int (nI 1), .int (nI 8)] L g (fun r g1 => r = some (.int (nI 1)) ∧ ∃ I1 : Nat → Int32, bz_B L g g1 [(o, b_Mod E o I1 (va_up A 6 (upd (A 6) (2 + 1) (nI z.1))))] ∧ q_tk I1 z.2 ∧ I1 19 = nI (q_sn b0 true) ∧ ∀ i, q_o i → i ≠ 18 → i ≠ 19 → I1 i = I i) := by
  refine bz_K.of (by decide) (bz_le rfl) (fun sz => ?_)
  have hB := bz_B.rf (bz_W.one hH)
  show bz_G _ _ _ _ _ _ _ _ _ _ _ _ 0 [(0, .ref o), (1, .int (nI 1)), (2, .int (nI 1)), (3, .int (nI 8))] []
  refine g_aload_n (q := 1) dX9_setsOnce_0 rfl rfl ?_
  refine g_iconst (q := 2) (v := (nI 2)) dX9_setsOnce_1 rfl (by decide) ?_
  refine g_aload_n (q := 3) dX9_setsOnce_2 rfl rfl ?_
  refine gb_getf (q := 6) (j := 0) (i := 0) dX9_setsOnce_3 rfl fl_X9_145 hB rfl rfl rfl rfl ?_
  refine g_eqi (v := nI (q_sn b0 false)) (h19) ?_
  refine g_iload_n (q := 7) dX9_setsOnce_6 rfl rfl ?_
  refine g_callS (q := 10) dX9_setsOnce_7 rfl ks_X9_148 rfl (c_mhas (x := nI (q_sn b0 false)) (b := nI 1)) (by decide) rfl (bz_le rfl) (by decide) (by decide) (fun r g1 hQ => ?_)
  obtain ⟨rfl, hg⟩ := hQ
  have hg := hg.symm
  subst hg
  refine g_eqi (v := nI 0) (q_sn_h1 b0 false) ?_
  refine g_if_ne (q := 13) (t := 17) dX9_setsOnce_10 rfl (by decide) (fun c => absurd c (fun q => q rfl)) (fun _ => ?_)
  refine g_iconst (q := 14) (v := (nI 1)) dX9_setsOnce_13 rfl (by decide) ?_
  refine g_goto (q := 18) dX9_setsOnce_14 (by decide) ?_
  refine gb_callV (q := 21) (j := 0) (i := 0) dX9_setsOnce_18 rfl kv_X9_151 (c_mstarts0 (I := I) (A := A) (t := t) (c := 2) hb hn h11 h9 ht hq (hB.1.at (j := 0) rfl)) rfl (by decide) hB rfl rfl rfl rfl (bz_le rfl) (by decide) (by decide) (fun r g1 hQ => ?_)
  obtain ⟨rfl, I1, h1, hq1, hf1⟩ := hQ
  have hB := hB.sp (j := 0) rfl 0 rfl h1 (bz_le rfl)
  have htn : t_is b n (t_nx b n t) := (t_nx_is ht).1
  refine g_ifN_ne (q := 24) (t := 26) dX9_setsOnce_21 rfl (by decide) (by omega) (fun _ => ?_) (fun c => absurd c (by omega))
  refine g_aload_n (q := 27) dX9_setsOnce_26 rfl rfl ?_
  refine g_dup (q := 28) dX9_setsOnce_27 rfl rfl ?_
  refine gb_getf (q := 31) (j := 0) (i := 0) dX9_setsOnce_28 rfl fl_X9_145 hB rfl rfl rfl rfl ?_
  refine g_eqi (v := nI (q_sn b0 false)) ((hf1 19 (Or.inr (by decide))).trans h19) ?_
  refine g_iconst (q := 32) (v := (nI 1)) dX9_setsOnce_31 rfl (by decide) ?_
  refine g_iload_n (q := 33) dX9_setsOnce_32 rfl rfl ?_
  refine g_ishl (q := 34) dX9_setsOnce_33 rfl ?_
  refine g_ior (q := 35) dX9_setsOnce_34 rfl ?_
  refine g_eqi (v := nI (q_sn b0 true)) (q_sn_s1 b0 false) ?_
  refine gb_putf (q := 38) (j := 0) (i := 0) dX9_setsOnce_35 rfl fp_X9_145 hB rfl rfl rfl (bz_le rfl) rfl rfl (fun g hB => ?_)
  refine g_aload_n (q := 39) dX9_setsOnce_38 rfl rfl ?_
  refine g_iload_n (q := 40) dX9_setsOnce_39 rfl rfl ?_
  refine g_iload_n (q := 41) dX9_setsOnce_40 rfl rfl ?_
  refine gb_callV (q := 44) (j := 0) (i := 0) dX9_setsOnce_41 rfl kv_X9_155 (c_mtakes0 (I := (va_up I1 19 (nI (q_sn b0 true)))) (A := A) (t := t_nx b n t) (lo := 1) (hi := 8) (z := z) hb hn ((hf1 11 (Or.inl (by decide))).trans h11) h9 (by decide) (by decide) htn hq1 hp (hB.1.at (j := 0) rfl)) rfl (by decide) hB rfl rfl rfl rfl (bz_le rfl) (by decide) (by decide) (fun r g1 hQ => ?_)
  obtain ⟨rfl, I3, h1, hq3, h183, hf3⟩ := hQ
  have hB := hB.sp (j := 0) rfl 0 rfl h1 (bz_le rfl)
  refine g_ifN_ne (q := 47) (t := 49) dX9_setsOnce_44 rfl (by decide) (by omega) (fun _ => ?_) (fun c => absurd c (by omega))
  refine g_aload_n (q := 50) dX9_setsOnce_49 rfl rfl ?_
  refine gb_getf (q := 53) (j := 0) (i := 0) dX9_setsOnce_50 rfl fl_X9_25 hB rfl rfl rfl rfl ?_
  refine g_iconst (q := 54) (v := (nI 2)) dX9_setsOnce_53 rfl (by decide) ?_
  refine g_iload_n (q := 55) dX9_setsOnce_54 rfl rfl ?_
  refine g_iaddN (q := 56) dX9_setsOnce_55 rfl ?_
  refine g_aload_n (q := 57) dX9_setsOnce_56 rfl rfl ?_
  refine gb_getf (q := 60) (j := 0) (i := 0) dX9_setsOnce_57 rfl fl_X9_136 hB rfl rfl rfl rfl ?_
  refine g_eqi (v := nI (z.1)) (h183) ?_
  refine gb_iastN (q := 61) (j := 0) (i := 6) dX9_setsOnce_60 rfl hB rfl rfl rfl (by decide) (by decide) (fun g hB => ?_)
  refine g_iconst (q := 62) (v := (nI 1)) dX9_setsOnce_61 rfl (by decide) ?_
  exact g_zret dX9_setsOnce_62 rfl rfl ⟨rfl, I3, hB, hq3, hf3 19 (Or.inr (by decide)) (by decide), fun i h1 h2 h3 => (hf3 i h1 h2).trans ((va_ne h3).trans (hf1 i h1))⟩
set_option maxRecDepth 20000 in
set_option maxHeartbeats 1000000 in
theorem c_msets1_1 {l : Launch} {E : bz_E} {L : List Nat} {g : Nat → va_E} {o : Nat} {I : Nat → Int32} {A : Nat → Nat → Int32} {b : Nat → Nat} {n : Nat} {t : Tok} {b0 : Bool} {z : Nat × Nat} (hb : ∀ i, b i < 256) (hn : n ≤ 600) (h11 : I 11 = nI n) (h9 : ∀ i, i < 600 → A 9 i = s8 (b i)) (ht : t_is b n t) (hq : q_tk I t) (h16 : I 16 = nI 0) (h19 : I 19 = nI (q_sn b0 false)) (hp : p_num b n 1 8 (t_nx b n t) = .inr z) (hH : bz_H L g o (b_Mod E o I A)) : bz_K l E mX9_setsOnce 3 [.ref o, .int (nI 1), .int (nI 1), .int (nI 8)] L g (fun r g1 => r = some (.int (nI 0)) ∧ ∃ I1 : Nat → Int32, bz_B L g g1 [(o, b_Mod E o I1 A)] ∧ I1 16 = nI z.1 ∧ I1 17 = nI z.2 ∧ q_fI I I1) := by
  refine bz_K.of (by decide) (bz_le rfl) (fun sz => ?_)
  have hB := bz_B.rf (bz_W.one hH)
  show bz_G _ _ _ _ _ _ _ _ _ _ _ _ 0 [(0, .ref o), (1, .int (nI 1)), (2, .int (nI 1)), (3, .int (nI 8))] []
  refine g_aload_n (q := 1) dX9_setsOnce_0 rfl rfl ?_
  refine g_iconst (q := 2) (v := (nI 2)) dX9_setsOnce_1 rfl (by decide) ?_
  refine g_aload_n (q := 3) dX9_setsOnce_2 rfl rfl ?_
  refine gb_getf (q := 6) (j := 0) (i := 0) dX9_setsOnce_3 rfl fl_X9_145 hB rfl rfl rfl rfl ?_
  refine g_eqi (v := nI (q_sn b0 false)) (h19) ?_
  refine g_iload_n (q := 7) dX9_setsOnce_6 rfl rfl ?_
  refine g_callS (q := 10) dX9_setsOnce_7 rfl ks_X9_148 rfl (c_mhas (x := nI (q_sn b0 false)) (b := nI 1)) (by decide) rfl (bz_le rfl) (by decide) (by decide) (fun r g1 hQ => ?_)
  obtain ⟨rfl, hg⟩ := hQ
  have hg := hg.symm
  subst hg
  refine g_eqi (v := nI 0) (q_sn_h1 b0 false) ?_
  refine g_if_ne (q := 13) (t := 17) dX9_setsOnce_10 rfl (by decide) (fun c => absurd c (fun q => q rfl)) (fun _ => ?_)
  refine g_iconst (q := 14) (v := (nI 1)) dX9_setsOnce_13 rfl (by decide) ?_
  refine g_goto (q := 18) dX9_setsOnce_14 (by decide) ?_
  refine gb_callV (q := 21) (j := 0) (i := 0) dX9_setsOnce_18 rfl kv_X9_151 (c_mstarts0 (I := I) (A := A) (t := t) (c := 2) hb hn h11 h9 ht hq (hB.1.at (j := 0) rfl)) rfl (by decide) hB rfl rfl rfl rfl (bz_le rfl) (by decide) (by decide) (fun r g1 hQ => ?_)
  obtain ⟨rfl, I1, h1, hq1, hf1⟩ := hQ
  have hB := hB.sp (j := 0) rfl 0 rfl h1 (bz_le rfl)
  have htn : t_is b n (t_nx b n t) := (t_nx_is ht).1
  refine g_ifN_ne (q := 24) (t := 26) dX9_setsOnce_21 rfl (by decide) (by omega) (fun _ => ?_) (fun c => absurd c (by omega))
  refine g_aload_n (q := 27) dX9_setsOnce_26 rfl rfl ?_
  refine g_dup (q := 28) dX9_setsOnce_27 rfl rfl ?_
  refine gb_getf (q := 31) (j := 0) (i := 0) dX9_setsOnce_28 rfl fl_X9_145 hB rfl rfl rfl rfl ?_
  refine g_eqi (v := nI (q_sn b0 false)) ((hf1 19 (Or.inr (by decide))).trans h19) ?_
  refine g_iconst (q := 32) (v := (nI 1)) dX9_setsOnce_31 rfl (by decide) ?_
  refine g_iload_n (q := 33) dX9_setsOnce_32 rfl rfl ?_
  refine g_ishl (q := 34) dX9_setsOnce_33 rfl ?_
  refine g_ior (q := 35) dX9_setsOnce_34 rfl ?_
  refine g_eqi (v := nI (q_sn b0 true)) (q_sn_s1 b0 false) ?_
  refine gb_putf (q := 38) (j := 0) (i := 0) dX9_setsOnce_35 rfl fp_X9_145 hB rfl rfl rfl (bz_le rfl) rfl rfl (fun g hB => ?_)
  refine g_aload_n (q := 39) dX9_setsOnce_38 rfl rfl ?_
  refine g_iload_n (q := 40) dX9_setsOnce_39 rfl rfl ?_
  refine g_iload_n (q := 41) dX9_setsOnce_40 rfl rfl ?_
  refine gb_callV (q := 44) (j := 0) (i := 0) dX9_setsOnce_41 rfl kv_X9_155 (c_mtakes1 (I := (va_up I1 19 (nI (q_sn b0 true)))) (A := A) (t := t_nx b n t) (lo := 1) (hi := 8) (e := z) hb hn ((hf1 11 (Or.inl (by decide))).trans h11) h9 (by decide) (by decide) htn hq1 ((hf1 16 (Or.inr (by decide))).trans h16) hp (hB.1.at (j := 0) rfl)) rfl (by decide) hB rfl rfl rfl rfl (bz_le rfl) (by decide) (by decide) (fun r g1 hQ => ?_)
  obtain ⟨rfl, h1⟩ := hQ
  have hB := hB.sp (j := 0) rfl 0 rfl h1 (bz_le rfl)
  refine g_ifN_ne (q := 47) (t := 49) dX9_setsOnce_44 rfl (by decide) (by omega) (fun c => absurd c (by omega)) (fun _ => ?_)
  refine g_iconst (q := 48) (v := (nI 0)) dX9_setsOnce_47 rfl (by decide) ?_
  exact g_zret dX9_setsOnce_48 rfl rfl ⟨rfl, va_up (va_up (va_up I1 19 (nI (q_sn b0 true))) 16 (nI z.1)) 17 (nI z.2), hB, rfl, rfl, fun i hi => (q_fI.er i hi).trans ((va_ne (by omega)).trans (hf1 i (by unfold q_o; omega)))⟩
set_option maxRecDepth 20000 in
set_option maxHeartbeats 1000000 in
theorem c_mstatement {l : Launch} {E : bz_E} {L : List Nat} {g : Nat → va_E} {o : Nat} {I : Nat → Int32} {A : Nat → Nat → Int32} {b : Nat → Nat} {n : Nat} {t : Tok} {D : Pl} {b0 b1 : Bool} (hb : ∀ i, b i < 256) (hn : n ≤ 600) (h11 : I 11 = nI n) (h9 : ∀ i, i < 600 → A 9 i = s8 (b i)) (ht : t_is b n t) (hq : q_tk I t) (h16 : I 16 = nI 0) (h19 : I 19 = nI (q_sn b0 b1)) (hd0 : d_ok D) (hdr : q_dr A D) (hH : bz_H L g o (b_Mod E o I A)) : bz_K l E mX9_statement 23 [.ref o] L g (fun r g1 => (r = some (.int (nI 1)) ∧ ∃ (I9 : Nat → Int32) (A9 : Nat → Nat → Int32) (D9 : Pl) (k1 k2 : Bool) (t9 : Tok), bz_B L g g1 [(o, b_Mod E o I9 A9)] ∧ p_stmt b n (D, b0, b1, t) = .inl (D9, k1, k2, t9) ∧ q_tk I9 t9 ∧ q_fI I I9 ∧ I9 17 = I 17 ∧ I9 16 = nI 0 ∧ I9 19 = nI (q_sn k1 k2) ∧ q_fA A A9 ∧ q_dr A9 D9) ∨ (r = some (.int (nI 0)) ∧ ∃ (I9 : Nat → Int32) (A9 : Nat → Nat → Int32) (e9 : Nat × Nat), bz_B L g g1 [(o, b_Mod E o I9 A9)] ∧ p_stmt b n (D, b0, b1, t) = .inr e9 ∧ I9 16 = nI e9.1 ∧ I9 17 = nI e9.2 ∧ q_fI I I9 ∧ q_fA A A9)) := by
  refine bz_K.of (by decide) (bz_le rfl) (fun sz => ?_)
  show bz_G _ _ _ _ _ _ _ _ _ _ _ _ 0 [(0, .ref o)] []
  have hB := bz_B.rf (bz_W.one hH)
  have hle := ht.le
  refine g_aload_n (q := 1) dX9_statement_0 rfl rfl ?_
  refine g_ldcS (q := 3) (tx := "buffer") (i := 0) dX9_statement_1 rfl (by decide +kernel) ?_
  refine gb_callV (q := 6) (j := 0) (i := 0) dX9_statement_3 rfl kv_X9_160 (c_misWord (i := 0) hb hn h11 h9 (by decide) ht hq (hB.1.at (j := 0) rfl)) rfl (by decide) hB rfl rfl rfl rfl (bz_le rfl) (by decide) (by decide) (fun r g1 hQ => ?_)
  obtain ⟨rfl, hg⟩ := hQ
  have hg := hg.symm
  subst hg
  refine g_if_eq (q := 9) (t := 23) dX9_statement_6 rfl (by decide) (fun c_6 => ?_) (fun c_6 => ?_)
  · refine g_aload_n (q := 24) dX9_statement_23 rfl rfl ?_
    refine g_ldcS (q := 26) (tx := "credit") (i := 1) dX9_statement_24 rfl (by decide +kernel) ?_
    refine gb_callV (q := 29) (j := 0) (i := 0) dX9_statement_26 rfl kv_X9_160 (c_misWord (i := 1) hb hn h11 h9 (by decide) ht hq (hB.1.at (j := 0) rfl)) rfl (by decide) hB rfl rfl rfl rfl (bz_le rfl) (by decide) (by decide) (fun r g1 hQ => ?_)
    obtain ⟨rfl, hg⟩ := hQ
    have hg := hg.symm
    subst hg
    refine g_if_eq (q := 32) (t := 46) dX9_statement_29 rfl (by decide) (fun c_29 => ?_) (fun c_29 => ?_)
    · refine g_aload_n (q := 47) dX9_statement_46 rfl rfl ?_
      refine g_ldcS (q := 49) (tx := "table") (i := 2) dX9_statement_47 rfl (by decide +kernel) ?_
      refine gb_callV (q := 52) (j := 0) (i := 0) dX9_statement_49 rfl kv_X9_160 (c_misWord (i := 2) hb hn h11 h9 (by decide) ht hq (hB.1.at (j := 0) rfl)) rfl (by decide) hB rfl rfl rfl rfl (bz_le rfl) (by decide) (by decide) (fun r g1 hQ => ?_)
      obtain ⟨rfl, hg⟩ := hQ
      have hg := hg.symm
      subst hg
      refine g_if_eq (q := 55) (t := 68) dX9_statement_52 rfl (by decide) (fun c_52 => ?_) (fun c_52 => ?_)
      · refine g_aload_n (q := 69) dX9_statement_68 rfl rfl ?_
        refine g_ldcS (q := 71) (tx := "word") (i := 3) dX9_statement_69 rfl (by decide +kernel) ?_
        refine gb_callV (q := 74) (j := 0) (i := 0) dX9_statement_71 rfl kv_X9_160 (c_misWord (i := 3) hb hn h11 h9 (by decide) ht hq (hB.1.at (j := 0) rfl)) rfl (by decide) hB rfl rfl rfl rfl (bz_le rfl) (by decide) (by decide) (fun r g1 hQ => ?_)
        obtain ⟨rfl, hg⟩ := hQ
        have hg := hg.symm
        subst hg
        refine g_if_eq (q := 77) (t := 93) dX9_statement_74 rfl (by decide) (fun c_74 => ?_) (fun c_74 => ?_)
        · refine g_aload_n (q := 94) dX9_statement_93 rfl rfl ?_
          refine g_ldcS (q := 96) (tx := "split") (i := 5) dX9_statement_94 rfl (by decide +kernel) ?_
          refine gb_callV (q := 99) (j := 0) (i := 0) dX9_statement_96 rfl kv_X9_160 (c_misWord (i := 5) hb hn h11 h9 (by decide) ht hq (hB.1.at (j := 0) rfl)) rfl (by decide) hB rfl rfl rfl rfl (bz_le rfl) (by decide) (by decide) (fun r g1 hQ => ?_)
          obtain ⟨rfl, hg⟩ := hQ
          have hg := hg.symm
          subst hg
          refine g_if_eq (q := 102) (t := 110) dX9_statement_99 rfl (by decide) (fun c_99 => ?_) (fun c_99 => ?_)
          · refine g_aload_n (q := 111) dX9_statement_110 rfl rfl ?_
            refine g_ldcS (q := 113) (tx := "tags") (i := 6) dX9_statement_111 rfl (by decide +kernel) ?_
            refine gb_callV (q := 116) (j := 0) (i := 0) dX9_statement_113 rfl kv_X9_160 (c_misWord (i := 6) hb hn h11 h9 (by decide) ht hq (hB.1.at (j := 0) rfl)) rfl (by decide) hB rfl rfl rfl rfl (bz_le rfl) (by decide) (by decide) (fun r g1 hQ => ?_)
            obtain ⟨rfl, hg⟩ := hQ
            have hg := hg.symm
            subst hg
            refine g_if_eq (q := 119) (t := 128) dX9_statement_116 rfl (by decide) (fun c_116 => ?_) (fun c_116 => ?_)
            · refine g_aload_n (q := 129) dX9_statement_128 rfl rfl ?_
              refine g_ldcS (q := 131) (tx := "latency") (i := 4) dX9_statement_129 rfl (by decide +kernel) ?_
              refine gb_callV (q := 134) (j := 0) (i := 0) dX9_statement_131 rfl kv_X9_160 (c_misWord (i := 4) hb hn h11 h9 (by decide) ht hq (hB.1.at (j := 0) rfl)) rfl (by decide) hB rfl rfl rfl rfl (bz_le rfl) (by decide) (by decide) (fun r g1 hQ => ?_)
              obtain ⟨rfl, hg⟩ := hQ
              have hg := hg.symm
              subst hg
              refine g_if_ne (q := 137) (t := 143) dX9_statement_134 rfl (by decide) (fun c_134 => ?_) (fun c_134 => ?_)
              · cases hp : p_num b n 0 1 (t_nx b n t) with
                | inr z =>
                  refine g_aload_n (q := 144) dX9_statement_143 rfl rfl ?_
                  refine gb_callV (q := 147) (j := 0) (i := 0) dX9_statement_144 rfl kv_X9_139 (c_madvance (I := I) (A := A) (p := kE t) hb hn h11 h9 (by omega) hq.2.1 (hB.1.at (j := 0) rfl)) rfl (by decide) hB rfl rfl rfl rfl (bz_le rfl) (by decide) (by decide) (fun r g1 hQ => ?_)
                  obtain ⟨rfl, I1, t1, h1, ht1, hq1, hf1⟩ := hQ
                  have hB := hB.sp (j := 0) rfl 0 rfl h1 (bz_le rfl)
                  have ht1 : t1 = t_nx b n t := ht1
                  subst ht1
                  have htn : t_is b n (t_nx b n t) := (t_nx_is ht).1
                  refine g_aload_n (q := 148) dX9_statement_147 rfl rfl ?_
                  refine g_iconst (q := 149) (v := (nI 0)) dX9_statement_148 rfl (by decide) ?_
                  refine g_iconst (q := 150) (v := (nI 1)) dX9_statement_149 rfl (by decide) ?_
                  refine gb_callV (q := 153) (j := 0) (i := 0) dX9_statement_150 rfl kv_X9_155 (c_mtakes1 (I := I1) (A := A) (t := (t_nx b n t)) (lo := 0) (hi := 1) (e := z) hb hn ((hf1 11 (Or.inl (by decide))).trans (h11)) h9 (by decide) (by decide) htn hq1 ((hf1 16 (Or.inr (by decide))).trans (h16)) hp (hB.1.at (j := 0) rfl)) rfl (by decide) hB rfl rfl rfl rfl (bz_le rfl) (by decide) (by decide) (fun r g1 hQ => ?_)
                  obtain ⟨rfl, h1⟩ := hQ
                  have hB := hB.sp (j := 0) rfl 0 rfl h1 (bz_le rfl)
                  refine g_ifN_ne (q := 156) (t := 158) dX9_statement_153 rfl (by decide) (by omega) (fun c => absurd c (by omega)) (fun _ => ?_)
                  refine g_iconst (q := 157) (v := (nI 0)) dX9_statement_156 rfl (by decide) ?_
                  exact g_zret dX9_statement_157 rfl rfl (Or.inr ⟨rfl, va_up (va_up I1 16 (nI z.1)) 17 (nI z.2), A, z, hB, by rw [p_st_l (tB_0 c_6) (tB_0 c_29) (tB_0 c_52) (tB_0 c_74) (tB_0 c_99) (tB_0 c_116) (tB_1 c_134), hp], rfl, rfl, (fun i hi => ((q_fI.er i hi).trans (hf1 i (by unfold q_o; omega)))), q_fA.rf⟩)
                | inl z =>
                  have hgz := p_num_go (t_nx_is ht).1 hp
                  have hbz := p_num_l hp
                  rcases (show z.1 = 0 ∨ z.1 = 1 by omega) with hv | hv
                  ·
                    refine g_aload_n (q := 144) dX9_statement_143 rfl rfl ?_
                    refine gb_callV (q := 147) (j := 0) (i := 0) dX9_statement_144 rfl kv_X9_139 (c_madvance (I := I) (A := A) (p := kE t) hb hn h11 h9 (by omega) hq.2.1 (hB.1.at (j := 0) rfl)) rfl (by decide) hB rfl rfl rfl rfl (bz_le rfl) (by decide) (by decide) (fun r g1 hQ => ?_)
                    obtain ⟨rfl, I1, t1, h1, ht1, hq1, hf1⟩ := hQ
                    have hB := hB.sp (j := 0) rfl 0 rfl h1 (bz_le rfl)
                    have ht1 : t1 = t_nx b n t := ht1
                    subst ht1
                    have htn : t_is b n (t_nx b n t) := (t_nx_is ht).1
                    refine g_aload_n (q := 148) dX9_statement_147 rfl rfl ?_
                    refine g_iconst (q := 149) (v := (nI 0)) dX9_statement_148 rfl (by decide) ?_
                    refine g_iconst (q := 150) (v := (nI 1)) dX9_statement_149 rfl (by decide) ?_
                    refine gb_callV (q := 153) (j := 0) (i := 0) dX9_statement_150 rfl kv_X9_155 (c_mtakes0 (I := I1) (A := A) (t := (t_nx b n t)) (lo := 0) (hi := 1) (z := z) hb hn ((hf1 11 (Or.inl (by decide))).trans (h11)) h9 (by decide) (by decide) htn hq1 hp (hB.1.at (j := 0) rfl)) rfl (by decide) hB rfl rfl rfl rfl (bz_le rfl) (by decide) (by decide) (fun r g1 hQ => ?_)
                    obtain ⟨rfl, I2, h1, hq2, h182, hf2⟩ := hQ
                    have hB := hB.sp (j := 0) rfl 0 rfl h1 (bz_le rfl)
                    refine g_ifN_ne (q := 156) (t := 158) dX9_statement_153 rfl (by decide) (by omega) (fun _ => ?_) (fun c => absurd c (by omega))
                    refine g_aload_n (q := 159) dX9_statement_158 rfl rfl ?_
                    refine g_aload_n (q := 160) dX9_statement_159 rfl rfl ?_
                    refine gb_getf (q := 163) (j := 0) (i := 0) dX9_statement_160 rfl fl_X9_136 hB rfl rfl rfl rfl ?_
                    refine g_eqi (v := nI (z.1)) (h182) ?_
                    refine gb_putf (q := 166) (j := 0) (i := 0) dX9_statement_163 rfl fp_X9_81 hB rfl rfl rfl (bz_le rfl) rfl rfl (fun g hB => ?_)
                    refine g_aload_n (q := 167) dX9_statement_166 rfl rfl ?_
                    refine gb_getf (q := 170) (j := 0) (i := 0) dX9_statement_167 rfl fl_X9_28 hB rfl rfl rfl rfl ?_
                    refine g_iconst (q := 171) (v := (nI 2)) dX9_statement_170 rfl (by decide) ?_
                    refine g_aload_n (q := 172) dX9_statement_171 rfl rfl ?_
                    refine gb_getf (q := 175) (j := 0) (i := 0) dX9_statement_172 rfl fl_X9_81 hB rfl rfl rfl rfl ?_
                    refine g_eqi (v := nI (z.1)) (rfl) ?_
                    refine g_iaddN (q := 176) dX9_statement_175 rfl ?_
                    refine g_iconst (q := 177) (v := (nI 0)) dX9_statement_176 rfl (by decide) ?_
                    refine gb_iastN (q := 178) (j := 0) (i := 7) dX9_statement_177 rfl hB rfl rfl rfl (by omega) (by decide) (fun g hB => ?_)
                    refine g_aload_n (q := 179) dX9_statement_178 rfl rfl ?_
                    refine g_iconst (q := 180) (v := (nI 0)) dX9_statement_179 rfl (by decide) ?_
                    refine gb_putf (q := 183) (j := 0) (i := 0) dX9_statement_180 rfl fp_X9_182 hB rfl rfl rfl (bz_le rfl) rfl rfl (fun g hB => ?_)
                    refine g_aload_n (q := 184) dX9_statement_183 rfl rfl ?_
                    refine gb_callV (q := 187) (j := 0) (i := 0) dX9_statement_184 rfl kv_X9_185 (q_allS 5 (I := (va_up (va_up I2 20 (nI z.1)) 21 (nI 0))) (A := (va_up A 7 (upd (A 7) (2 + z.1) (nI 0)))) (a := z.1) (b := b) (n := n) (S := []) (u := []) (t := z.2) rfl (show 0 < 1 by decide) ⟨hb, hn, ((hf2 11 (Or.inl (by decide)) (by decide)).trans ((hf1 11 (Or.inl (by decide))).trans (h11))), h9, by omega, rfl, ((hf2 16 (Or.inr (by decide)) (by decide)).trans ((hf1 16 (Or.inr (by decide))).trans (h16))), rfl, hq2, q_ex0, hgz.1, trivial, Nat.zero_le _, e_to.nil, Nat.zero_le _⟩ (hB.1.at (j := 0) rfl)) rfl (by decide) hB rfl rfl rfl rfl (bz_le rfl) (by decide) (by decide) (fun r g1 hQ => ?_)
                    rcases hQ with ⟨rfl, I5, A5, u5, t5, h1, hq5, hf5, h165, hE5, hx5, hR5⟩ | ⟨rfl, I5, A5, e5, h1, hc5, hp5, hf5, hE5, hR5⟩
                    · have hB := hB.sp (j := 0) rfl 0 rfl h1 (bz_le rfl)
                      have hx9 := q_sumok hR5 hgz.1 hn
                      refine g_zret dX9_statement_187 rfl rfl (Or.inl ⟨rfl, I5, A5, (D.1, D.2.1, D.2.2.1, D.2.2.2.1, D.2.2.2.2.1, D.2.2.2.2.2.1, u5, D.2.2.2.2.2.2.2), b0, b1, t5, hB, ?_, hq5, fun i hi => (hf5 i (by omega)).trans ((va_ne (by omega)).trans ((va_ne (by omega)).trans ((hf2 i (by unfold q_o; omega) (by omega)).trans (hf1 i (by unfold q_o; omega))))), (hf5 17 (Or.inr (by decide))).trans (((hf2 17 (Or.inr (by decide)) (by decide)).trans ((hf1 17 (Or.inr (by decide))).trans (rfl)))), h165, (hf5 19 (Or.inr (by decide))).trans (((hf2 19 (Or.inr (by decide)) (by decide)).trans ((hf1 19 (Or.inr (by decide))).trans (h19)))), q_fA.u7.tr (q_fA.fE (by omega) hE5), hdr.l0 hd0 (by have := q_fE.u7.tr hE5; rw [hv] at this; exact this) (by rw [hv] at hx5; exact hx5)⟩)
                      rw [p_st_l (tB_0 c_6) (tB_0 c_29) (tB_0 c_52) (tB_0 c_74) (tB_0 c_99) (tB_0 c_116) (tB_1 c_134), hp]
                      dsimp only
                      rw [hx9]
                      dsimp only
                      rw [if_pos hv]
                    · have hB := hB.sp (j := 0) rfl 0 rfl h1 (bz_le rfl)
                      have hx9 := q_sumno hR5 hgz.1 hn
                      refine g_zret dX9_statement_187 rfl rfl (Or.inr ⟨rfl, I5, A5, e5, hB, ?_, hc5, hp5, fun i hi => (hf5 i hi).trans ((va_ne (by omega)).trans ((va_ne (by omega)).trans ((hf2 i (by unfold q_o; omega) (by omega)).trans (hf1 i (by unfold q_o; omega))))), q_fA.u7.tr (q_fA.fE (by omega) hE5)⟩)
                      rw [p_st_l (tB_0 c_6) (tB_0 c_29) (tB_0 c_52) (tB_0 c_74) (tB_0 c_99) (tB_0 c_116) (tB_1 c_134), hp]
                      dsimp only
                      rw [hx9]
                  ·
                    refine g_aload_n (q := 144) dX9_statement_143 rfl rfl ?_
                    refine gb_callV (q := 147) (j := 0) (i := 0) dX9_statement_144 rfl kv_X9_139 (c_madvance (I := I) (A := A) (p := kE t) hb hn h11 h9 (by omega) hq.2.1 (hB.1.at (j := 0) rfl)) rfl (by decide) hB rfl rfl rfl rfl (bz_le rfl) (by decide) (by decide) (fun r g1 hQ => ?_)
                    obtain ⟨rfl, I1, t1, h1, ht1, hq1, hf1⟩ := hQ
                    have hB := hB.sp (j := 0) rfl 0 rfl h1 (bz_le rfl)
                    have ht1 : t1 = t_nx b n t := ht1
                    subst ht1
                    have htn : t_is b n (t_nx b n t) := (t_nx_is ht).1
                    refine g_aload_n (q := 148) dX9_statement_147 rfl rfl ?_
                    refine g_iconst (q := 149) (v := (nI 0)) dX9_statement_148 rfl (by decide) ?_
                    refine g_iconst (q := 150) (v := (nI 1)) dX9_statement_149 rfl (by decide) ?_
                    refine gb_callV (q := 153) (j := 0) (i := 0) dX9_statement_150 rfl kv_X9_155 (c_mtakes0 (I := I1) (A := A) (t := (t_nx b n t)) (lo := 0) (hi := 1) (z := z) hb hn ((hf1 11 (Or.inl (by decide))).trans (h11)) h9 (by decide) (by decide) htn hq1 hp (hB.1.at (j := 0) rfl)) rfl (by decide) hB rfl rfl rfl rfl (bz_le rfl) (by decide) (by decide) (fun r g1 hQ => ?_)
                    obtain ⟨rfl, I2, h1, hq2, h182, hf2⟩ := hQ
                    have hB := hB.sp (j := 0) rfl 0 rfl h1 (bz_le rfl)
                    refine g_ifN_ne (q := 156) (t := 158) dX9_statement_153 rfl (by decide) (by omega) (fun _ => ?_) (fun c => absurd c (by omega))
                    refine g_aload_n (q := 159) dX9_statement_158 rfl rfl ?_
                    refine g_aload_n (q := 160) dX9_statement_159 rfl rfl ?_
                    refine gb_getf (q := 163) (j := 0) (i := 0) dX9_statement_160 rfl fl_X9_136 hB rfl rfl rfl rfl ?_
                    refine g_eqi (v := nI (z.1)) (h182) ?_
                    refine gb_putf (q := 166) (j := 0) (i := 0) dX9_statement_163 rfl fp_X9_81 hB rfl rfl rfl (bz_le rfl) rfl rfl (fun g hB => ?_)
                    refine g_aload_n (q := 167) dX9_statement_166 rfl rfl ?_
                    refine gb_getf (q := 170) (j := 0) (i := 0) dX9_statement_167 rfl fl_X9_28 hB rfl rfl rfl rfl ?_
                    refine g_iconst (q := 171) (v := (nI 2)) dX9_statement_170 rfl (by decide) ?_
                    refine g_aload_n (q := 172) dX9_statement_171 rfl rfl ?_
                    refine gb_getf (q := 175) (j := 0) (i := 0) dX9_statement_172 rfl fl_X9_81 hB rfl rfl rfl rfl ?_
                    refine g_eqi (v := nI (z.1)) (rfl) ?_
                    refine g_iaddN (q := 176) dX9_statement_175 rfl ?_
                    refine g_iconst (q := 177) (v := (nI 0)) dX9_statement_176 rfl (by decide) ?_
                    refine gb_iastN (q := 178) (j := 0) (i := 7) dX9_statement_177 rfl hB rfl rfl rfl (by omega) (by decide) (fun g hB => ?_)
                    refine g_aload_n (q := 179) dX9_statement_178 rfl rfl ?_
                    refine g_iconst (q := 180) (v := (nI 0)) dX9_statement_179 rfl (by decide) ?_
                    refine gb_putf (q := 183) (j := 0) (i := 0) dX9_statement_180 rfl fp_X9_182 hB rfl rfl rfl (bz_le rfl) rfl rfl (fun g hB => ?_)
                    refine g_aload_n (q := 184) dX9_statement_183 rfl rfl ?_
                    refine gb_callV (q := 187) (j := 0) (i := 0) dX9_statement_184 rfl kv_X9_185 (q_allS 5 (I := (va_up (va_up I2 20 (nI z.1)) 21 (nI 0))) (A := (va_up A 7 (upd (A 7) (2 + z.1) (nI 0)))) (a := z.1) (b := b) (n := n) (S := []) (u := []) (t := z.2) rfl (show 0 < 1 by decide) ⟨hb, hn, ((hf2 11 (Or.inl (by decide)) (by decide)).trans ((hf1 11 (Or.inl (by decide))).trans (h11))), h9, by omega, rfl, ((hf2 16 (Or.inr (by decide)) (by decide)).trans ((hf1 16 (Or.inr (by decide))).trans (h16))), rfl, hq2, q_ex0, hgz.1, trivial, Nat.zero_le _, e_to.nil, Nat.zero_le _⟩ (hB.1.at (j := 0) rfl)) rfl (by decide) hB rfl rfl rfl rfl (bz_le rfl) (by decide) (by decide) (fun r g1 hQ => ?_)
                    rcases hQ with ⟨rfl, I5, A5, u5, t5, h1, hq5, hf5, h165, hE5, hx5, hR5⟩ | ⟨rfl, I5, A5, e5, h1, hc5, hp5, hf5, hE5, hR5⟩
                    · have hB := hB.sp (j := 0) rfl 0 rfl h1 (bz_le rfl)
                      have hx9 := q_sumok hR5 hgz.1 hn
                      refine g_zret dX9_statement_187 rfl rfl (Or.inl ⟨rfl, I5, A5, (D.1, D.2.1, D.2.2.1, D.2.2.2.1, D.2.2.2.2.1, D.2.2.2.2.2.1, D.2.2.2.2.2.2.1, u5), b0, b1, t5, hB, ?_, hq5, fun i hi => (hf5 i (by omega)).trans ((va_ne (by omega)).trans ((va_ne (by omega)).trans ((hf2 i (by unfold q_o; omega) (by omega)).trans (hf1 i (by unfold q_o; omega))))), (hf5 17 (Or.inr (by decide))).trans (((hf2 17 (Or.inr (by decide)) (by decide)).trans ((hf1 17 (Or.inr (by decide))).trans (rfl)))), h165, (hf5 19 (Or.inr (by decide))).trans (((hf2 19 (Or.inr (by decide)) (by decide)).trans ((hf1 19 (Or.inr (by decide))).trans (h19)))), q_fA.u7.tr (q_fA.fE (by omega) hE5), hdr.l1 hd0 (by have := q_fE.u7.tr hE5; rw [hv] at this; exact this) (by rw [hv] at hx5; exact hx5)⟩)
                      rw [p_st_l (tB_0 c_6) (tB_0 c_29) (tB_0 c_52) (tB_0 c_74) (tB_0 c_99) (tB_0 c_116) (tB_1 c_134), hp]
                      dsimp only
                      rw [hx9]
                      dsimp only
                      rw [if_neg (by omega)]
                    · have hB := hB.sp (j := 0) rfl 0 rfl h1 (bz_le rfl)
                      have hx9 := q_sumno hR5 hgz.1 hn
                      refine g_zret dX9_statement_187 rfl rfl (Or.inr ⟨rfl, I5, A5, e5, hB, ?_, hc5, hp5, fun i hi => (hf5 i hi).trans ((va_ne (by omega)).trans ((va_ne (by omega)).trans ((hf2 i (by unfold q_o; omega) (by omega)).trans (hf1 i (by unfold q_o; omega))))), q_fA.u7.tr (q_fA.fE (by omega) hE5)⟩)
                      rw [p_st_l (tB_0 c_6) (tB_0 c_29) (tB_0 c_52) (tB_0 c_74) (tB_0 c_99) (tB_0 c_116) (tB_1 c_134), hp]
                      dsimp only
                      rw [hx9]
              · refine g_aload_n (q := 138) dX9_statement_137 rfl rfl ?_
                refine g_iconst (q := 139) (v := (nI 1)) dX9_statement_138 rfl (by decide) ?_
                refine gb_callV (q := 142) (j := 0) (i := 0) dX9_statement_139 rfl kv_X9_133 (c_mfails (I := I) (A := A) (c := 1) h16 hq.1 (hB.1.at (j := 0) rfl)) rfl (by decide) hB rfl rfl rfl rfl (bz_le rfl) (by decide) (by decide) (fun r g1 hQ => ?_)
                obtain ⟨rfl, h1⟩ := hQ
                have hB := hB.sp (j := 0) rfl 0 rfl h1 (bz_le rfl)
                exact g_zret dX9_statement_142 rfl rfl (Or.inr ⟨rfl, va_up (va_up I 16 (nI 1)) 17 (nI (kS t)), A, (1, kS t), hB, p_st_n (tB_0 c_6) (tB_0 c_29) (tB_0 c_52) (tB_0 c_74) (tB_0 c_99) (tB_0 c_116) (tB_0 c_134), rfl, rfl, q_fI.er, q_fA.rf⟩)
            · cases b1 with
              | true =>
                refine g_aload_n (q := 120) dX9_statement_119 rfl rfl ?_
                refine g_iconst (q := 121) (v := (nI 1)) dX9_statement_120 rfl (by decide) ?_
                refine g_iconst (q := 122) (v := (nI 1)) dX9_statement_121 rfl (by decide) ?_
                refine g_bipush (q := 124) (v := (nI 8)) dX9_statement_122 rfl (by decide) ?_
                refine gb_callV (q := 127) (j := 0) (i := 0) dX9_statement_124 rfl kv_X9_175 (c_msets1_2 (I := I) (A := A) hb ht hq h16 h19 (hB.1.at (j := 0) rfl)) rfl (by decide) hB rfl rfl rfl rfl (bz_le rfl) (by decide) (by decide) (fun r g1 hQ => ?_)
                obtain ⟨rfl, I1, h1, hc1, hp9, hf⟩ := hQ
                have hB := hB.sp (j := 0) rfl 0 rfl h1 (bz_le rfl)
                exact g_zret dX9_statement_127 rfl rfl (Or.inr ⟨rfl, I1, A, (2, kS t), hB, by rw [p_st_g (tB_0 c_6) (tB_0 c_29) (tB_0 c_52) (tB_0 c_74) (tB_0 c_99) (tB_1 c_116), if_pos rfl], hc1, hp9, hf, q_fA.rf⟩)
              | false =>
                cases hp : p_num b n 1 8 (t_nx b n t) with
                | inl z =>
                  refine g_aload_n (q := 120) dX9_statement_119 rfl rfl ?_
                  refine g_iconst (q := 121) (v := (nI 1)) dX9_statement_120 rfl (by decide) ?_
                  refine g_iconst (q := 122) (v := (nI 1)) dX9_statement_121 rfl (by decide) ?_
                  refine g_bipush (q := 124) (v := (nI 8)) dX9_statement_122 rfl (by decide) ?_
                  refine gb_callV (q := 127) (j := 0) (i := 0) dX9_statement_124 rfl kv_X9_175 (c_msets1_0 (I := I) (A := A) hb hn h11 h9 ht hq h16 h19 hp (hB.1.at (j := 0) rfl)) rfl (by decide) hB rfl rfl rfl rfl (bz_le rfl) (by decide) (by decide) (fun r g1 hQ => ?_)
                  obtain ⟨rfl, I1, h1, hq1, h191, hf⟩ := hQ
                  have hB := hB.sp (j := 0) rfl 0 rfl h1 (bz_le rfl)
                  exact g_zret dX9_statement_127 rfl rfl (Or.inl ⟨rfl, I1, va_up A 6 (upd (A 6) (2 + 1) (nI z.1)), (D.1, D.2.1, D.2.2.1, D.2.2.2.1, D.2.2.2.2.1, z.1, D.2.2.2.2.2.2), b0, true, z.2, hB, by rw [p_st_g (tB_0 c_6) (tB_0 c_29) (tB_0 c_52) (tB_0 c_74) (tB_0 c_99) (tB_1 c_116), if_neg (by decide), hp], hq1, (fun i hi => hf i (by unfold q_o; omega) (by omega) (by omega)), hf 17 (Or.inr (by decide)) (by decide) (by decide), (hf 16 (Or.inr (by decide)) (by decide) (by decide)).trans h16, h191, q_fA.u6, hdr.u61⟩)
                | inr z =>
                  refine g_aload_n (q := 120) dX9_statement_119 rfl rfl ?_
                  refine g_iconst (q := 121) (v := (nI 1)) dX9_statement_120 rfl (by decide) ?_
                  refine g_iconst (q := 122) (v := (nI 1)) dX9_statement_121 rfl (by decide) ?_
                  refine g_bipush (q := 124) (v := (nI 8)) dX9_statement_122 rfl (by decide) ?_
                  refine gb_callV (q := 127) (j := 0) (i := 0) dX9_statement_124 rfl kv_X9_175 (c_msets1_1 (I := I) (A := A) hb hn h11 h9 ht hq h16 h19 hp (hB.1.at (j := 0) rfl)) rfl (by decide) hB rfl rfl rfl rfl (bz_le rfl) (by decide) (by decide) (fun r g1 hQ => ?_)
                  obtain ⟨rfl, I1, h1, hc1, hp9, hf⟩ := hQ
                  have hB := hB.sp (j := 0) rfl 0 rfl h1 (bz_le rfl)
                  exact g_zret dX9_statement_127 rfl rfl (Or.inr ⟨rfl, I1, A, z, hB, by rw [p_st_g (tB_0 c_6) (tB_0 c_29) (tB_0 c_52) (tB_0 c_74) (tB_0 c_99) (tB_1 c_116), if_neg (by decide), hp], hc1, hp9, hf, q_fA.rf⟩)
          · cases b0 with
            | true =>
              refine g_aload_n (q := 103) dX9_statement_102 rfl rfl ?_
              refine g_iconst (q := 104) (v := (nI 0)) dX9_statement_103 rfl (by decide) ?_
              refine g_iconst (q := 105) (v := (nI 1)) dX9_statement_104 rfl (by decide) ?_
              refine g_iconst (q := 106) (v := (nI 4)) dX9_statement_105 rfl (by decide) ?_
              refine gb_callV (q := 109) (j := 0) (i := 0) dX9_statement_106 rfl kv_X9_175 (c_msets0_2 (I := I) (A := A) hb ht hq h16 h19 (hB.1.at (j := 0) rfl)) rfl (by decide) hB rfl rfl rfl rfl (bz_le rfl) (by decide) (by decide) (fun r g1 hQ => ?_)
              obtain ⟨rfl, I1, h1, hc1, hp9, hf⟩ := hQ
              have hB := hB.sp (j := 0) rfl 0 rfl h1 (bz_le rfl)
              exact g_zret dX9_statement_109 rfl rfl (Or.inr ⟨rfl, I1, A, (2, kS t), hB, by rw [p_st_s (tB_0 c_6) (tB_0 c_29) (tB_0 c_52) (tB_0 c_74) (tB_1 c_99), if_pos rfl], hc1, hp9, hf, q_fA.rf⟩)
            | false =>
              cases hp : p_num b n 1 4 (t_nx b n t) with
              | inl z =>
                refine g_aload_n (q := 103) dX9_statement_102 rfl rfl ?_
                refine g_iconst (q := 104) (v := (nI 0)) dX9_statement_103 rfl (by decide) ?_
                refine g_iconst (q := 105) (v := (nI 1)) dX9_statement_104 rfl (by decide) ?_
                refine g_iconst (q := 106) (v := (nI 4)) dX9_statement_105 rfl (by decide) ?_
                refine gb_callV (q := 109) (j := 0) (i := 0) dX9_statement_106 rfl kv_X9_175 (c_msets0_0 (I := I) (A := A) hb hn h11 h9 ht hq h16 h19 hp (hB.1.at (j := 0) rfl)) rfl (by decide) hB rfl rfl rfl rfl (bz_le rfl) (by decide) (by decide) (fun r g1 hQ => ?_)
                obtain ⟨rfl, I1, h1, hq1, h191, hf⟩ := hQ
                have hB := hB.sp (j := 0) rfl 0 rfl h1 (bz_le rfl)
                exact g_zret dX9_statement_109 rfl rfl (Or.inl ⟨rfl, I1, va_up A 6 (upd (A 6) (2 + 0) (nI z.1)), (D.1, D.2.1, D.2.2.1, D.2.2.2.1, z.1, D.2.2.2.2.2), true, b1, z.2, hB, by rw [p_st_s (tB_0 c_6) (tB_0 c_29) (tB_0 c_52) (tB_0 c_74) (tB_1 c_99), if_neg (by decide), hp], hq1, (fun i hi => hf i (by unfold q_o; omega) (by omega) (by omega)), hf 17 (Or.inr (by decide)) (by decide) (by decide), (hf 16 (Or.inr (by decide)) (by decide) (by decide)).trans h16, h191, q_fA.u6, hdr.u60⟩)
              | inr z =>
                refine g_aload_n (q := 103) dX9_statement_102 rfl rfl ?_
                refine g_iconst (q := 104) (v := (nI 0)) dX9_statement_103 rfl (by decide) ?_
                refine g_iconst (q := 105) (v := (nI 1)) dX9_statement_104 rfl (by decide) ?_
                refine g_iconst (q := 106) (v := (nI 4)) dX9_statement_105 rfl (by decide) ?_
                refine gb_callV (q := 109) (j := 0) (i := 0) dX9_statement_106 rfl kv_X9_175 (c_msets0_1 (I := I) (A := A) hb hn h11 h9 ht hq h16 h19 hp (hB.1.at (j := 0) rfl)) rfl (by decide) hB rfl rfl rfl rfl (bz_le rfl) (by decide) (by decide) (fun r g1 hQ => ?_)
                obtain ⟨rfl, I1, h1, hc1, hp9, hf⟩ := hQ
                have hB := hB.sp (j := 0) rfl 0 rfl h1 (bz_le rfl)
                exact g_zret dX9_statement_109 rfl rfl (Or.inr ⟨rfl, I1, A, z, hB, by rw [p_st_s (tB_0 c_6) (tB_0 c_29) (tB_0 c_52) (tB_0 c_74) (tB_1 c_99), if_neg (by decide), hp], hc1, hp9, hf, q_fA.rf⟩)
        · cases hp : p_set b n 2 16 0 9999 (t_nx b n t) with
          | inl z =>
            refine g_aload_n (q := 78) dX9_statement_77 rfl rfl ?_
            refine g_aload_n (q := 79) dX9_statement_78 rfl rfl ?_
            refine gb_getf (q := 82) (j := 0) (i := 0) dX9_statement_79 rfl fl_X9_22 hB rfl rfl rfl rfl ?_
            refine g_iconst (q := 83) (v := (nI 2)) dX9_statement_82 rfl (by decide) ?_
            refine g_bipush (q := 85) (v := (nI 16)) dX9_statement_83 rfl (by decide) ?_
            refine g_iconst (q := 86) (v := (nI 0)) dX9_statement_85 rfl (by decide) ?_
            refine g_sipush (q := 89) (v := (nI 9999)) dX9_statement_86 rfl (by decide) ?_
            refine gb_callV (q := 92) (j := 0) (i := 0) dX9_statement_89 rfl kv_X9_164 (c_mlays5_0 (I := I) (A := A) hb hn h11 h9 ht hq h16 hp (hB.1.at (j := 0) rfl)) rfl (by decide) hB rfl rfl rfl rfl (bz_le rfl) (by decide) (by decide) (fun r g1 hQ => ?_)
            obtain ⟨rfl, I1, h1, hq1, hf⟩ := hQ
            have hB := hB.sp (j := 0) rfl 0 rfl h1 (bz_le rfl)
            exact g_zret dX9_statement_92 rfl rfl (Or.inl ⟨rfl, I1, va_up A 5 (upd (A 5) (32 + z.1) (nI z.2.1)), (D.1, D.2.1, D.2.2.1, va_up D.2.2.2.1 z.1 z.2.1, D.2.2.2.2), b0, b1, z.2.2, hB, by rw [p_st_w (tB_0 c_6) (tB_0 c_29) (tB_0 c_52) (tB_1 c_74), hp], hq1, (fun i hi => hf i (by unfold q_o; omega) (by omega)), hf 17 (Or.inr (by decide)) (by decide), (hf 16 (Or.inr (by decide)) (by decide)).trans h16, (hf 19 (Or.inr (by decide)) (by decide)).trans h19, q_fA.u5, hdr.u5⟩)
          | inr z =>
            refine g_aload_n (q := 78) dX9_statement_77 rfl rfl ?_
            refine g_aload_n (q := 79) dX9_statement_78 rfl rfl ?_
            refine gb_getf (q := 82) (j := 0) (i := 0) dX9_statement_79 rfl fl_X9_22 hB rfl rfl rfl rfl ?_
            refine g_iconst (q := 83) (v := (nI 2)) dX9_statement_82 rfl (by decide) ?_
            refine g_bipush (q := 85) (v := (nI 16)) dX9_statement_83 rfl (by decide) ?_
            refine g_iconst (q := 86) (v := (nI 0)) dX9_statement_85 rfl (by decide) ?_
            refine g_sipush (q := 89) (v := (nI 9999)) dX9_statement_86 rfl (by decide) ?_
            refine gb_callV (q := 92) (j := 0) (i := 0) dX9_statement_89 rfl kv_X9_164 (c_mlays5_1 (I := I) (A := A) hb hn h11 h9 ht hq h16 hp (hB.1.at (j := 0) rfl)) rfl (by decide) hB rfl rfl rfl rfl (bz_le rfl) (by decide) (by decide) (fun r g1 hQ => ?_)
            obtain ⟨rfl, I1, h1, hc1, hp9, hf⟩ := hQ
            have hB := hB.sp (j := 0) rfl 0 rfl h1 (bz_le rfl)
            exact g_zret dX9_statement_92 rfl rfl (Or.inr ⟨rfl, I1, A, z, hB, by rw [p_st_w (tB_0 c_6) (tB_0 c_29) (tB_0 c_52) (tB_1 c_74), hp], hc1, hp9, hf, q_fA.rf⟩)
      · cases hp : p_set b n 4 4 0 1 (t_nx b n t) with
        | inl z =>
          refine g_aload_n (q := 56) dX9_statement_55 rfl rfl ?_
          refine g_aload_n (q := 57) dX9_statement_56 rfl rfl ?_
          refine gb_getf (q := 60) (j := 0) (i := 0) dX9_statement_57 rfl fl_X9_19 hB rfl rfl rfl rfl ?_
          refine g_iconst (q := 61) (v := (nI 4)) dX9_statement_60 rfl (by decide) ?_
          refine g_iconst (q := 62) (v := (nI 4)) dX9_statement_61 rfl (by decide) ?_
          refine g_iconst (q := 63) (v := (nI 0)) dX9_statement_62 rfl (by decide) ?_
          refine g_iconst (q := 64) (v := (nI 1)) dX9_statement_63 rfl (by decide) ?_
          refine gb_callV (q := 67) (j := 0) (i := 0) dX9_statement_64 rfl kv_X9_164 (c_mlays4_0 (I := I) (A := A) hb hn h11 h9 ht hq h16 hp (hB.1.at (j := 0) rfl)) rfl (by decide) hB rfl rfl rfl rfl (bz_le rfl) (by decide) (by decide) (fun r g1 hQ => ?_)
          obtain ⟨rfl, I1, h1, hq1, hf⟩ := hQ
          have hB := hB.sp (j := 0) rfl 0 rfl h1 (bz_le rfl)
          exact g_zret dX9_statement_67 rfl rfl (Or.inl ⟨rfl, I1, va_up A 4 (upd (A 4) (16 + z.1) (nI z.2.1)), (D.1, D.2.1, va_up D.2.2.1 z.1 z.2.1, D.2.2.2), b0, b1, z.2.2, hB, by rw [p_st_t (tB_0 c_6) (tB_0 c_29) (tB_1 c_52), hp], hq1, (fun i hi => hf i (by unfold q_o; omega) (by omega)), hf 17 (Or.inr (by decide)) (by decide), (hf 16 (Or.inr (by decide)) (by decide)).trans h16, (hf 19 (Or.inr (by decide)) (by decide)).trans h19, q_fA.u4, hdr.u4⟩)
        | inr z =>
          refine g_aload_n (q := 56) dX9_statement_55 rfl rfl ?_
          refine g_aload_n (q := 57) dX9_statement_56 rfl rfl ?_
          refine gb_getf (q := 60) (j := 0) (i := 0) dX9_statement_57 rfl fl_X9_19 hB rfl rfl rfl rfl ?_
          refine g_iconst (q := 61) (v := (nI 4)) dX9_statement_60 rfl (by decide) ?_
          refine g_iconst (q := 62) (v := (nI 4)) dX9_statement_61 rfl (by decide) ?_
          refine g_iconst (q := 63) (v := (nI 0)) dX9_statement_62 rfl (by decide) ?_
          refine g_iconst (q := 64) (v := (nI 1)) dX9_statement_63 rfl (by decide) ?_
          refine gb_callV (q := 67) (j := 0) (i := 0) dX9_statement_64 rfl kv_X9_164 (c_mlays4_1 (I := I) (A := A) hb hn h11 h9 ht hq h16 hp (hB.1.at (j := 0) rfl)) rfl (by decide) hB rfl rfl rfl rfl (bz_le rfl) (by decide) (by decide) (fun r g1 hQ => ?_)
          obtain ⟨rfl, I1, h1, hc1, hp9, hf⟩ := hQ
          have hB := hB.sp (j := 0) rfl 0 rfl h1 (bz_le rfl)
          exact g_zret dX9_statement_67 rfl rfl (Or.inr ⟨rfl, I1, A, z, hB, by rw [p_st_t (tB_0 c_6) (tB_0 c_29) (tB_1 c_52), hp], hc1, hp9, hf, q_fA.rf⟩)
    · cases hp : p_set b n 2 4 0 8 (t_nx b n t) with
      | inl z =>
        refine g_aload_n (q := 33) dX9_statement_32 rfl rfl ?_
        refine g_aload_n (q := 34) dX9_statement_33 rfl rfl ?_
        refine gb_getf (q := 37) (j := 0) (i := 0) dX9_statement_34 rfl fl_X9_16 hB rfl rfl rfl rfl ?_
        refine g_iconst (q := 38) (v := (nI 2)) dX9_statement_37 rfl (by decide) ?_
        refine g_iconst (q := 39) (v := (nI 4)) dX9_statement_38 rfl (by decide) ?_
        refine g_iconst (q := 40) (v := (nI 0)) dX9_statement_39 rfl (by decide) ?_
        refine g_bipush (q := 42) (v := (nI 8)) dX9_statement_40 rfl (by decide) ?_
        refine gb_callV (q := 45) (j := 0) (i := 0) dX9_statement_42 rfl kv_X9_164 (c_mlays3_0 (I := I) (A := A) hb hn h11 h9 ht hq h16 hp (hB.1.at (j := 0) rfl)) rfl (by decide) hB rfl rfl rfl rfl (bz_le rfl) (by decide) (by decide) (fun r g1 hQ => ?_)
        obtain ⟨rfl, I1, h1, hq1, hf⟩ := hQ
        have hB := hB.sp (j := 0) rfl 0 rfl h1 (bz_le rfl)
        exact g_zret dX9_statement_45 rfl rfl (Or.inl ⟨rfl, I1, va_up A 3 (upd (A 3) (8 + z.1) (nI z.2.1)), (D.1, va_up D.2.1 z.1 z.2.1, D.2.2), b0, b1, z.2.2, hB, by rw [p_st_c (tB_0 c_6) (tB_1 c_29), hp], hq1, (fun i hi => hf i (by unfold q_o; omega) (by omega)), hf 17 (Or.inr (by decide)) (by decide), (hf 16 (Or.inr (by decide)) (by decide)).trans h16, (hf 19 (Or.inr (by decide)) (by decide)).trans h19, q_fA.u3, hdr.u3⟩)
      | inr z =>
        refine g_aload_n (q := 33) dX9_statement_32 rfl rfl ?_
        refine g_aload_n (q := 34) dX9_statement_33 rfl rfl ?_
        refine gb_getf (q := 37) (j := 0) (i := 0) dX9_statement_34 rfl fl_X9_16 hB rfl rfl rfl rfl ?_
        refine g_iconst (q := 38) (v := (nI 2)) dX9_statement_37 rfl (by decide) ?_
        refine g_iconst (q := 39) (v := (nI 4)) dX9_statement_38 rfl (by decide) ?_
        refine g_iconst (q := 40) (v := (nI 0)) dX9_statement_39 rfl (by decide) ?_
        refine g_bipush (q := 42) (v := (nI 8)) dX9_statement_40 rfl (by decide) ?_
        refine gb_callV (q := 45) (j := 0) (i := 0) dX9_statement_42 rfl kv_X9_164 (c_mlays3_1 (I := I) (A := A) hb hn h11 h9 ht hq h16 hp (hB.1.at (j := 0) rfl)) rfl (by decide) hB rfl rfl rfl rfl (bz_le rfl) (by decide) (by decide) (fun r g1 hQ => ?_)
        obtain ⟨rfl, I1, h1, hc1, hp9, hf⟩ := hQ
        have hB := hB.sp (j := 0) rfl 0 rfl h1 (bz_le rfl)
        exact g_zret dX9_statement_45 rfl rfl (Or.inr ⟨rfl, I1, A, z, hB, by rw [p_st_c (tB_0 c_6) (tB_1 c_29), hp], hc1, hp9, hf, q_fA.rf⟩)
  · cases hp : p_set b n 2 4 1 8 (t_nx b n t) with
    | inl z =>
      refine g_aload_n (q := 10) dX9_statement_9 rfl rfl ?_
      refine g_aload_n (q := 11) dX9_statement_10 rfl rfl ?_
      refine gb_getf (q := 14) (j := 0) (i := 0) dX9_statement_11 rfl fl_X9_13 hB rfl rfl rfl rfl ?_
      refine g_iconst (q := 15) (v := (nI 2)) dX9_statement_14 rfl (by decide) ?_
      refine g_iconst (q := 16) (v := (nI 4)) dX9_statement_15 rfl (by decide) ?_
      refine g_iconst (q := 17) (v := (nI 1)) dX9_statement_16 rfl (by decide) ?_
      refine g_bipush (q := 19) (v := (nI 8)) dX9_statement_17 rfl (by decide) ?_
      refine gb_callV (q := 22) (j := 0) (i := 0) dX9_statement_19 rfl kv_X9_164 (c_mlays2_0 (I := I) (A := A) hb hn h11 h9 ht hq h16 hp (hB.1.at (j := 0) rfl)) rfl (by decide) hB rfl rfl rfl rfl (bz_le rfl) (by decide) (by decide) (fun r g1 hQ => ?_)
      obtain ⟨rfl, I1, h1, hq1, hf⟩ := hQ
      have hB := hB.sp (j := 0) rfl 0 rfl h1 (bz_le rfl)
      exact g_zret dX9_statement_22 rfl rfl (Or.inl ⟨rfl, I1, va_up A 2 (upd (A 2) (8 + z.1) (nI z.2.1)), (va_up D.1 z.1 z.2.1, D.2), b0, b1, z.2.2, hB, by rw [p_st_b (tB_1 c_6), hp], hq1, (fun i hi => hf i (by unfold q_o; omega) (by omega)), hf 17 (Or.inr (by decide)) (by decide), (hf 16 (Or.inr (by decide)) (by decide)).trans h16, (hf 19 (Or.inr (by decide)) (by decide)).trans h19, q_fA.u2, hdr.u2⟩)
    | inr z =>
      refine g_aload_n (q := 10) dX9_statement_9 rfl rfl ?_
      refine g_aload_n (q := 11) dX9_statement_10 rfl rfl ?_
      refine gb_getf (q := 14) (j := 0) (i := 0) dX9_statement_11 rfl fl_X9_13 hB rfl rfl rfl rfl ?_
      refine g_iconst (q := 15) (v := (nI 2)) dX9_statement_14 rfl (by decide) ?_
      refine g_iconst (q := 16) (v := (nI 4)) dX9_statement_15 rfl (by decide) ?_
      refine g_iconst (q := 17) (v := (nI 1)) dX9_statement_16 rfl (by decide) ?_
      refine g_bipush (q := 19) (v := (nI 8)) dX9_statement_17 rfl (by decide) ?_
      refine gb_callV (q := 22) (j := 0) (i := 0) dX9_statement_19 rfl kv_X9_164 (c_mlays2_1 (I := I) (A := A) hb hn h11 h9 ht hq h16 hp (hB.1.at (j := 0) rfl)) rfl (by decide) hB rfl rfl rfl rfl (bz_le rfl) (by decide) (by decide) (fun r g1 hQ => ?_)
      obtain ⟨rfl, I1, h1, hc1, hp9, hf⟩ := hQ
      have hB := hB.sp (j := 0) rfl 0 rfl h1 (bz_le rfl)
      exact g_zret dX9_statement_22 rfl rfl (Or.inr ⟨rfl, I1, A, z, hB, by rw [p_st_b (tB_1 c_6), hp], hc1, hp9, hf, q_fA.rf⟩)
