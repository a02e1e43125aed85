/-! the reference: settings, statements -/
theorem q_tk.s {I I1 : Nat → Int32} {t : Tok} (h : ∀ i, 12 ≤ i → i ≤ 15 → I1 i = I i) (hq : q_tk I t) : q_tk I1 t := by
  unfold q_tk at hq ⊢
  rw [h 12 (by decide) (by decide), h 13 (by decide) (by decide), h 14 (by decide) (by decide), h 15 (by decide) (by decide)]
  exact hq
set_option maxRecDepth 20000 in
set_option maxHeartbeats 1000000 in
theorem c_mlays2_0 {l : Launch} {E : bz_E} {L : List Nat} {g : Nat → va_E} {o : Nat} {I : Nat → Int32} {A : Nat → Nat → Int32} {b : Nat → Nat} {n : Nat} {t : Tok} {z : Nat × Nat × Tok} (hb : ∀ i, b i < 256) (hn : n ≤ 600) (h11 : I 11 = nI n) (h9 : ∀ i, i < 600 → A 9 i = s8 (b i)) (ht : t_is b n t) (hq : q_tk I t) (h16 : I 16 = nI 0) (hp : p_set b n 2 4 1 8 (t_nx b n t) = .inl z) (hH : bz_H L g o (b_Mod E o I A)) : bz_K l E mX9_lays 3 [.ref o, .ref (o + 2), .int (nI 2), .int (nI 4), .int (nI 1), .int (nI 8)] L g (fun r g1 => r = some (.int (nI 1)) ∧ ∃ I1 : Nat → Int32, bz_B L g g1 [(o, b_Mod E o I1 (va_up A 2 (upd (A 2) (8 + z.1) (nI z.2.1))))] ∧ q_tk I1 z.2.2 ∧ ∀ i, q_o i → i ≠ 18 → I1 i = I i) := by
  refine bz_K.of (by decide) (bz_le rfl) (fun sz => ?_)
  show bz_G _ _ _ _ _ _ _ _ _ _ _ _ 0 [(0, .ref o), (1, .ref (o + 2)), (2, .int (nI 2)), (3, .int (nI 4)), (4, .int (nI 1)), (5, .int (nI 8))] []
  have hB := bz_B.rf (bz_W.one hH)
  have hle := ht.le
  have htn0 : t_is b n (t_nx b n t) := (t_nx_is ht).1
  unfold p_set at hp
  cases hp1 : p_num b n 0 (2 - 1) (t_nx b n t) with
  | inr e => rw [hp1] at hp; cases hp
  | inl q1 =>
    rw [hp1] at hp
    dsimp only at hp
    have hg1 := p_num_go htn0 hp1
    have hb1 := p_num_l hp1
    cases hp2 : p_num b n 0 (4 - 1) q1.2 with
    | inr e => rw [hp2] at hp; cases hp
    | inl q2 =>
      rw [hp2] at hp
      dsimp only at hp
      have hg2 := p_num_go hg1.1 hp2
      have hb2 := p_num_l hp2
      cases hp3 : p_num b n 1 8 q2.2 with
      | inr e => rw [hp3] at hp; cases hp
      | inl q3 =>
      rw [hp3] at hp
      cases hp
      refine g_aload_n (q := 1) dX9_lays_0 rfl rfl ?_
      refine gb_callV (q := 4) (j := 0) (i := 0) dX9_lays_1 rfl kv_X9_139 (c_madvance (I := I) (A := A) (p := kE t) hb hn h11 h9 (by omega) hq.2.1 (hB.1.at (j := 0) rfl)) rfl (by decide) hB rfl rfl rfl rfl (bz_le rfl) (by decide) (by decide) (fun r g1 hQ => ?_)
      obtain ⟨rfl, I1, t1, h1, ht1, hq1, hf1⟩ := hQ
      have hB := hB.sp (j := 0) rfl 0 rfl h1 (bz_le rfl)
      have ht1 : t1 = t_nx b n t := ht1
      subst ht1
      have htn : t_is b n (t_nx b n t) := (t_nx_is ht).1
      refine g_aload_n (q := 5) dX9_lays_4 rfl rfl ?_
      refine g_iconst (q := 6) (v := (nI 0)) dX9_lays_5 rfl (by decide) ?_
      refine g_iload_n (q := 7) dX9_lays_6 rfl rfl ?_
      refine g_iconst (q := 8) (v := (nI 1)) dX9_lays_7 rfl (by decide) ?_
      refine g_isubN (q := 9) dX9_lays_8 rfl (bz_le rfl) ?_
      refine gb_callV (q := 12) (j := 0) (i := 0) dX9_lays_9 rfl kv_X9_155 (c_mtakes0 (I := I1) (A := A) (t := (t_nx b n t)) (lo := 0) (hi := 2 - 1) (z := q1) hb hn ((hf1 11 (Or.inl (by decide))).trans (h11)) h9 (by decide) (by decide) htn hq1 hp1 (hB.1.at (j := 0) rfl)) rfl (by decide) hB rfl rfl rfl rfl (bz_le rfl) (by decide) (by decide) (fun r g1 hQ => ?_)
      obtain ⟨rfl, I2, h1, hq2, h182, hf2⟩ := hQ
      have hB := hB.sp (j := 0) rfl 0 rfl h1 (bz_le rfl)
      refine g_ifN_ne (q := 15) (t := 17) dX9_lays_12 rfl (by decide) (by omega) (fun _ => ?_) (fun c => absurd c (by omega))
      refine g_aload_n (q := 18) dX9_lays_17 rfl rfl ?_
      refine gb_alen (q := 19) (j := 0) (i := 2) (t0 := 1) dX9_lays_18 rfl hB rfl rfl rfl rfl ?_
      refine g_iconst (q := 20) (v := (nI 2)) dX9_lays_19 rfl (by decide) ?_
      refine g_idiv (q := 21) dX9_lays_20 rfl (by decide) ?_
      refine g_eqi (v := nI (8)) (by decide) ?_
      refine g_iload_n (q := 22) dX9_lays_21 rfl rfl ?_
      refine g_aload_n (q := 23) dX9_lays_22 rfl rfl ?_
      refine gb_getf (q := 26) (j := 0) (i := 0) dX9_lays_23 rfl fl_X9_136 hB rfl rfl rfl rfl ?_
      refine g_eqi (v := nI (q1.1)) (h182) ?_
      refine g_imulN (q := 27) dX9_lays_26 rfl ?_
      refine g_iaddN (q := 28) dX9_lays_27 rfl ?_
      refine g_istore (q := 30) dX9_lays_28 rfl (by decide) rfl ?_
      refine g_aload_n (q := 31) dX9_lays_30 rfl rfl ?_
      refine g_iconst (q := 32) (v := (nI 0)) dX9_lays_31 rfl (by decide) ?_
      refine g_iload_n (q := 33) dX9_lays_32 rfl rfl ?_
      refine g_iconst (q := 34) (v := (nI 1)) dX9_lays_33 rfl (by decide) ?_
      refine g_isubN (q := 35) dX9_lays_34 rfl (bz_le rfl) ?_
      refine gb_callV (q := 38) (j := 0) (i := 0) dX9_lays_35 rfl kv_X9_155 (c_mtakes0 (I := I2) (A := A) (t := q1.2) (lo := 0) (hi := 4 - 1) (z := q2) hb hn ((hf2 11 (Or.inl (by decide)) (by decide)).trans ((hf1 11 (Or.inl (by decide))).trans (h11))) h9 (by decide) (by decide) hg1.1 hq2 hp2 (hB.1.at (j := 0) rfl)) rfl (by decide) hB rfl rfl rfl rfl (bz_le rfl) (by decide) (by decide) (fun r g1 hQ => ?_)
      obtain ⟨rfl, I3, h1, hq3, h183, hf3⟩ := hQ
      have hB := hB.sp (j := 0) rfl 0 rfl h1 (bz_le rfl)
      refine g_ifN_ne (q := 41) (t := 43) dX9_lays_38 rfl (by decide) (by omega) (fun _ => ?_) (fun c => absurd c (by omega))
      refine g_iload (q := 45) dX9_lays_43 rfl rfl ?_
      refine g_aload_n (q := 46) dX9_lays_45 rfl rfl ?_
      refine gb_getf (q := 49) (j := 0) (i := 0) dX9_lays_46 rfl fl_X9_136 hB rfl rfl rfl rfl ?_
      refine g_eqi (v := nI (q2.1)) (h183) ?_
      refine g_iaddN (q := 50) dX9_lays_49 rfl ?_
      refine g_istore (q := 52) dX9_lays_50 rfl (by decide) rfl ?_
      refine g_aload_n (q := 53) dX9_lays_52 rfl rfl ?_
      refine g_iload (q := 55) dX9_lays_53 rfl rfl ?_
      refine g_iload (q := 57) dX9_lays_55 rfl rfl ?_
      refine gb_callV (q := 60) (j := 0) (i := 0) dX9_lays_57 rfl kv_X9_155 (c_mtakes0 (I := I3) (A := A) (t := q2.2) (lo := 1) (hi := 8) (z := q3) hb hn ((hf3 11 (Or.inl (by decide)) (by decide)).trans ((hf2 11 (Or.inl (by decide)) (by decide)).trans ((hf1 11 (Or.inl (by decide))).trans (h11)))) h9 (by decide) (by decide) hg2.1 hq3 hp3 (hB.1.at (j := 0) rfl)) rfl (by decide) hB rfl rfl rfl rfl (bz_le rfl) (by decide) (by decide) (fun r g1 hQ => ?_)
      obtain ⟨rfl, I4, h1, hq4, h184, hf4⟩ := hQ
      have hB := hB.sp (j := 0) rfl 0 rfl h1 (bz_le rfl)
      refine g_ifN_ne (q := 63) (t := 65) dX9_lays_60 rfl (by decide) (by omega) (fun _ => ?_) (fun c => absurd c (by omega))
      refine g_aload_n (q := 66) dX9_lays_65 rfl rfl ?_
      refine g_iload (q := 68) dX9_lays_66 rfl rfl ?_
      refine g_aload_n (q := 69) dX9_lays_68 rfl rfl ?_
      refine gb_getf (q := 72) (j := 0) (i := 0) dX9_lays_69 rfl fl_X9_136 hB rfl rfl rfl rfl ?_
      refine g_eqi (v := nI (q3.1)) (h184) ?_
      refine gb_iastN (q := 73) (j := 0) (i := 2) dX9_lays_72 rfl hB rfl rfl rfl (by omega) (by decide) (fun g hB => ?_)
      refine g_iconst (q := 74) (v := (nI 1)) dX9_lays_73 rfl (by decide) ?_
      exact g_zret dX9_lays_74 rfl rfl ⟨rfl, I4, by rw [show 8 + 4 * q1.1 + q2.1 = 8 + (q1.1 * 4 + q2.1) by omega] at hB; exact hB, hq4, fun i h1 h2 => (hf4 i h1 h2).trans ((hf3 i h1 h2).trans ((hf2 i h1 h2).trans (hf1 i h1)))⟩

set_option maxRecDepth 20000 in
set_option maxHeartbeats 1000000 in
theorem c_mlays2_1 {l : Launch} {E : bz_E} {L : List Nat} {g : Nat → va_E} {o : Nat} {I : Nat → Int32} {A : Nat → Nat → Int32} {b : Nat → Nat} {n : Nat} {t : Tok} {z : Nat × Nat} (hb : ∀ i, b i < 256) (hn : n ≤ 600) (h11 : I 11 = nI n) (h9 : ∀ i, i < 600 → A 9 i = s8 (b i)) (ht : t_is b n t) (hq : q_tk I t) (h16 : I 16 = nI 0) (hp : p_set b n 2 4 1 8 (t_nx b n t) = .inr z) (hH : bz_H L g o (b_Mod E o I A)) : bz_K l E mX9_lays 3 [.ref o, .ref (o + 2), .int (nI 2), .int (nI 4), .int (nI 1), .int (nI 8)] L g (fun r g1 => r = some (.int (nI 0)) ∧ ∃ I1 : Nat → Int32, bz_B L g g1 [(o, b_Mod E o I1 A)] ∧ I1 16 = nI z.1 ∧ I1 17 = nI z.2 ∧ q_fI I I1) := by
  refine bz_K.of (by decide) (bz_le rfl) (fun sz => ?_)
  show bz_G _ _ _ _ _ _ _ _ _ _ _ _ 0 [(0, .ref o), (1, .ref (o + 2)), (2, .int (nI 2)), (3, .int (nI 4)), (4, .int (nI 1)), (5, .int (nI 8))] []
  have hB := bz_B.rf (bz_W.one hH)
  have hle := ht.le
  have htn0 : t_is b n (t_nx b n t) := (t_nx_is ht).1
  unfold p_set at hp
  cases hp1 : p_num b n 0 (2 - 1) (t_nx b n t) with
  | inr e =>
      rw [hp1] at hp
      cases hp
      refine g_aload_n (q := 1) dX9_lays_0 rfl rfl ?_
      refine gb_callV (q := 4) (j := 0) (i := 0) dX9_lays_1 rfl kv_X9_139 (c_madvance (I := I) (A := A) (p := kE t) hb hn h11 h9 (by omega) hq.2.1 (hB.1.at (j := 0) rfl)) rfl (by decide) hB rfl rfl rfl rfl (bz_le rfl) (by decide) (by decide) (fun r g1 hQ => ?_)
      obtain ⟨rfl, I1, t1, h1, ht1, hq1, hf1⟩ := hQ
      have hB := hB.sp (j := 0) rfl 0 rfl h1 (bz_le rfl)
      have ht1 : t1 = t_nx b n t := ht1
      subst ht1
      have htn : t_is b n (t_nx b n t) := (t_nx_is ht).1
      refine g_aload_n (q := 5) dX9_lays_4 rfl rfl ?_
      refine g_iconst (q := 6) (v := (nI 0)) dX9_lays_5 rfl (by decide) ?_
      refine g_iload_n (q := 7) dX9_lays_6 rfl rfl ?_
      refine g_iconst (q := 8) (v := (nI 1)) dX9_lays_7 rfl (by decide) ?_
      refine g_isubN (q := 9) dX9_lays_8 rfl (bz_le rfl) ?_
      refine gb_callV (q := 12) (j := 0) (i := 0) dX9_lays_9 rfl kv_X9_155 (c_mtakes1 (I := I1) (A := A) (t := (t_nx b n t)) (lo := 0) (hi := 2 - 1) (e := z) hb hn ((hf1 11 (Or.inl (by decide))).trans (h11)) h9 (by decide) (by decide) htn hq1 ((hf1 16 (Or.inr (by decide))).trans (h16)) hp1 (hB.1.at (j := 0) rfl)) rfl (by decide) hB rfl rfl rfl rfl (bz_le rfl) (by decide) (by decide) (fun r g1 hQ => ?_)
      obtain ⟨rfl, h1⟩ := hQ
      have hB := hB.sp (j := 0) rfl 0 rfl h1 (bz_le rfl)
      refine g_ifN_ne (q := 15) (t := 17) dX9_lays_12 rfl (by decide) (by omega) (fun c => absurd c (by omega)) (fun _ => ?_)
      refine g_iconst (q := 16) (v := (nI 0)) dX9_lays_15 rfl (by decide) ?_
      exact g_zret dX9_lays_16 rfl rfl ⟨rfl, va_up (va_up I1 16 (nI z.1)) 17 (nI z.2), hB, rfl, rfl, (fun i hi => ((q_fI.er i hi).trans (hf1 i (by unfold q_o; omega))))⟩
  | inl q1 =>
    rw [hp1] at hp
    dsimp only at hp
    have hg1 := p_num_go htn0 hp1
    have hb1 := p_num_l hp1
    cases hp2 : p_num b n 0 (4 - 1) q1.2 with
    | inr e =>
      rw [hp2] at hp
      cases hp
      refine g_aload_n (q := 1) dX9_lays_0 rfl rfl ?_
      refine gb_callV (q := 4) (j := 0) (i := 0) dX9_lays_1 rfl kv_X9_139 (c_madvance (I := I) (A := A) (p := kE t) hb hn h11 h9 (by omega) hq.2.1 (hB.1.at (j := 0) rfl)) rfl (by decide) hB rfl rfl rfl rfl (bz_le rfl) (by decide) (by decide) (fun r g1 hQ => ?_)
      obtain ⟨rfl, I1, t1, h1, ht1, hq1, hf1⟩ := hQ
      have hB := hB.sp (j := 0) rfl 0 rfl h1 (bz_le rfl)
      have ht1 : t1 = t_nx b n t := ht1
      subst ht1
      have htn : t_is b n (t_nx b n t) := (t_nx_is ht).1
      refine g_aload_n (q := 5) dX9_lays_4 rfl rfl ?_
      refine g_iconst (q := 6) (v := (nI 0)) dX9_lays_5 rfl (by decide) ?_
      refine g_iload_n (q := 7) dX9_lays_6 rfl rfl ?_
      refine g_iconst (q := 8) (v := (nI 1)) dX9_lays_7 rfl (by decide) ?_
      refine g_isubN (q := 9) dX9_lays_8 rfl (bz_le rfl) ?_
      refine gb_callV (q := 12) (j := 0) (i := 0) dX9_lays_9 rfl kv_X9_155 (c_mtakes0 (I := I1) (A := A) (t := (t_nx b n t)) (lo := 0) (hi := 2 - 1) (z := q1) hb hn ((hf1 11 (Or.inl (by decide))).trans (h11)) h9 (by decide) (by decide) htn hq1 hp1 (hB.1.at (j := 0) rfl)) rfl (by decide) hB rfl rfl rfl rfl (bz_le rfl) (by decide) (by decide) (fun r g1 hQ => ?_)
      obtain ⟨rfl, I2, h1, hq2, h182, hf2⟩ := hQ
      have hB := hB.sp (j := 0) rfl 0 rfl h1 (bz_le rfl)
      refine g_ifN_ne (q := 15) (t := 17) dX9_lays_12 rfl (by decide) (by omega) (fun _ => ?_) (fun c => absurd c (by omega))
      refine g_aload_n (q := 18) dX9_lays_17 rfl rfl ?_
      refine gb_alen (q := 19) (j := 0) (i := 2) (t0 := 1) dX9_lays_18 rfl hB rfl rfl rfl rfl ?_
      refine g_iconst (q := 20) (v := (nI 2)) dX9_lays_19 rfl (by decide) ?_
      refine g_idiv (q := 21) dX9_lays_20 rfl (by decide) ?_
      refine g_eqi (v := nI (8)) (by decide) ?_
      refine g_iload_n (q := 22) dX9_lays_21 rfl rfl ?_
      refine g_aload_n (q := 23) dX9_lays_22 rfl rfl ?_
      refine gb_getf (q := 26) (j := 0) (i := 0) dX9_lays_23 rfl fl_X9_136 hB rfl rfl rfl rfl ?_
      refine g_eqi (v := nI (q1.1)) (h182) ?_
      refine g_imulN (q := 27) dX9_lays_26 rfl ?_
      refine g_iaddN (q := 28) dX9_lays_27 rfl ?_
      refine g_istore (q := 30) dX9_lays_28 rfl (by decide) rfl ?_
      refine g_aload_n (q := 31) dX9_lays_30 rfl rfl ?_
      refine g_iconst (q := 32) (v := (nI 0)) dX9_lays_31 rfl (by decide) ?_
      refine g_iload_n (q := 33) dX9_lays_32 rfl rfl ?_
      refine g_iconst (q := 34) (v := (nI 1)) dX9_lays_33 rfl (by decide) ?_
      refine g_isubN (q := 35) dX9_lays_34 rfl (bz_le rfl) ?_
      refine gb_callV (q := 38) (j := 0) (i := 0) dX9_lays_35 rfl kv_X9_155 (c_mtakes1 (I := I2) (A := A) (t := q1.2) (lo := 0) (hi := 4 - 1) (e := z) hb hn ((hf2 11 (Or.inl (by decide)) (by decide)).trans ((hf1 11 (Or.inl (by decide))).trans (h11))) h9 (by decide) (by decide) hg1.1 hq2 ((hf2 16 (Or.inr (by decide)) (by decide)).trans ((hf1 16 (Or.inr (by decide))).trans (h16))) hp2 (hB.1.at (j := 0) rfl)) rfl (by decide) hB rfl rfl rfl rfl (bz_le rfl) (by decide) (by decide) (fun r g1 hQ => ?_)
      obtain ⟨rfl, h1⟩ := hQ
      have hB := hB.sp (j := 0) rfl 0 rfl h1 (bz_le rfl)
      refine g_ifN_ne (q := 41) (t := 43) dX9_lays_38 rfl (by decide) (by omega) (fun c => absurd c (by omega)) (fun _ => ?_)
      refine g_iconst (q := 42) (v := (nI 0)) dX9_lays_41 rfl (by decide) ?_
      exact g_zret dX9_lays_42 rfl rfl ⟨rfl, va_up (va_up I2 16 (nI z.1)) 17 (nI z.2), hB, rfl, rfl, (fun i hi => ((q_fI.er i hi).trans ((hf2 i (by unfold q_o; omega) (by omega)).trans (hf1 i (by unfold q_o; omega)))))⟩
    | inl q2 =>
      rw [hp2] at hp
      dsimp only at hp
      have hg2 := p_num_go hg1.1 hp2
      have hb2 := p_num_l hp2
      cases hp3 : p_num b n 1 8 q2.2 with
      | inl q3 => rw [hp3] at hp; cases hp
      | inr e =>
      rw [hp3] at hp
      cases hp
      refine g_aload_n (q := 1) dX9_lays_0 rfl rfl ?_
      refine gb_callV (q := 4) (j := 0) (i := 0) dX9_lays_1 rfl kv_X9_139 (c_madvance (I := I) (A := A) (p := kE t) hb hn h11 h9 (by omega) hq.2.1 (hB.1.at (j := 0) rfl)) rfl (by decide) hB rfl rfl rfl rfl (bz_le rfl) (by decide) (by decide) (fun r g1 hQ => ?_)
      obtain ⟨rfl, I1, t1, h1, ht1, hq1, hf1⟩ := hQ
      have hB := hB.sp (j := 0) rfl 0 rfl h1 (bz_le rfl)
      have ht1 : t1 = t_nx b n t := ht1
      subst ht1
      have htn : t_is b n (t_nx b n t) := (t_nx_is ht).1
      refine g_aload_n (q := 5) dX9_lays_4 rfl rfl ?_
      refine g_iconst (q := 6) (v := (nI 0)) dX9_lays_5 rfl (by decide) ?_
      refine g_iload_n (q := 7) dX9_lays_6 rfl rfl ?_
      refine g_iconst (q := 8) (v := (nI 1)) dX9_lays_7 rfl (by decide) ?_
      refine g_isubN (q := 9) dX9_lays_8 rfl (bz_le rfl) ?_
      refine gb_callV (q := 12) (j := 0) (i := 0) dX9_lays_9 rfl kv_X9_155 (c_mtakes0 (I := I1) (A := A) (t := (t_nx b n t)) (lo := 0) (hi := 2 - 1) (z := q1) hb hn ((hf1 11 (Or.inl (by decide))).trans (h11)) h9 (by decide) (by decide) htn hq1 hp1 (hB.1.at (j := 0) rfl)) rfl (by decide) hB rfl rfl rfl rfl (bz_le rfl) (by decide) (by decide) (fun r g1 hQ => ?_)
      obtain ⟨rfl, I2, h1, hq2, h182, hf2⟩ := hQ
      have hB := hB.sp (j := 0) rfl 0 rfl h1 (bz_le rfl)
      refine g_ifN_ne (q := 15) (t := 17) dX9_lays_12 rfl (by decide) (by omega) (fun _ => ?_) (fun c => absurd c (by omega))
      refine g_aload_n (q := 18) dX9_lays_17 rfl rfl ?_
      refine gb_alen (q := 19) (j := 0) (i := 2) (t0 := 1) dX9_lays_18 rfl hB rfl rfl rfl rfl ?_
      refine g_iconst (q := 20) (v := (nI 2)) dX9_lays_19 rfl (by decide) ?_
      refine g_idiv (q := 21) dX9_lays_20 rfl (by decide) ?_
      refine g_eqi (v := nI (8)) (by decide) ?_
      refine g_iload_n (q := 22) dX9_lays_21 rfl rfl ?_
      refine g_aload_n (q := 23) dX9_lays_22 rfl rfl ?_
      refine gb_getf (q := 26) (j := 0) (i := 0) dX9_lays_23 rfl fl_X9_136 hB rfl rfl rfl rfl ?_
      refine g_eqi (v := nI (q1.1)) (h182) ?_
      refine g_imulN (q := 27) dX9_lays_26 rfl ?_
      refine g_iaddN (q := 28) dX9_lays_27 rfl ?_
      refine g_istore (q := 30) dX9_lays_28 rfl (by decide) rfl ?_
      refine g_aload_n (q := 31) dX9_lays_30 rfl rfl ?_
      refine g_iconst (q := 32) (v := (nI 0)) dX9_lays_31 rfl (by decide) ?_
      refine g_iload_n (q := 33) dX9_lays_32 rfl rfl ?_
      refine g_iconst (q := 34) (v := (nI 1)) dX9_lays_33 rfl (by decide) ?_
      refine g_isubN (q := 35) dX9_lays_34 rfl (bz_le rfl) ?_
      refine gb_callV (q := 38) (j := 0) (i := 0) dX9_lays_35 rfl kv_X9_155 (c_mtakes0 (I := I2) (A := A) (t := q1.2) (lo := 0) (hi := 4 - 1) (z := q2) hb hn ((hf2 11 (Or.inl (by decide)) (by decide)).trans ((hf1 11 (Or.inl (by decide))).trans (h11))) h9 (by decide) (by decide) hg1.1 hq2 hp2 (hB.1.at (j := 0) rfl)) rfl (by decide) hB rfl rfl rfl rfl (bz_le rfl) (by decide) (by decide) (fun r g1 hQ => ?_)
      obtain ⟨rfl, I3, h1, hq3, h183, hf3⟩ := hQ
      have hB := hB.sp (j := 0) rfl 0 rfl h1 (bz_le rfl)
      refine g_ifN_ne (q := 41) (t := 43) dX9_lays_38 rfl (by decide) (by omega) (fun _ => ?_) (fun c => absurd c (by omega))
      refine g_iload (q := 45) dX9_lays_43 rfl rfl ?_
      refine g_aload_n (q := 46) dX9_lays_45 rfl rfl ?_
      refine gb_getf (q := 49) (j := 0) (i := 0) dX9_lays_46 rfl fl_X9_136 hB rfl rfl rfl rfl ?_
      refine g_eqi (v := nI (q2.1)) (h183) ?_
      refine g_iaddN (q := 50) dX9_lays_49 rfl ?_
      refine g_istore (q := 52) dX9_lays_50 rfl (by decide) rfl ?_
      refine g_aload_n (q := 53) dX9_lays_52 rfl rfl ?_
      refine g_iload (q := 55) dX9_lays_53 rfl rfl ?_
      refine g_iload (q := 57) dX9_lays_55 rfl rfl ?_
      refine gb_callV (q := 60) (j := 0) (i := 0) dX9_lays_57 rfl kv_X9_155 (c_mtakes1 (I := I3) (A := A) (t := q2.2) (lo := 1) (hi := 8) (e := z) hb hn ((hf3 11 (Or.inl (by decide)) (by decide)).trans ((hf2 11 (Or.inl (by decide)) (by decide)).trans ((hf1 11 (Or.inl (by decide))).trans (h11)))) h9 (by decide) (by decide) hg2.1 hq3 ((hf3 16 (Or.inr (by decide)) (by decide)).trans ((hf2 16 (Or.inr (by decide)) (by decide)).trans ((hf1 16 (Or.inr (by decide))).trans (h16)))) hp3 (hB.1.at (j := 0) rfl)) rfl (by decide) hB rfl rfl rfl rfl (bz_le rfl) (by decide) (by decide) (fun r g1 hQ => ?_)
      obtain ⟨rfl, h1⟩ := hQ
      have hB := hB.sp (j := 0) rfl 0 rfl h1 (bz_le rfl)
      refine g_ifN_ne (q := 63) (t := 65) dX9_lays_60 rfl (by decide) (by omega) (fun c => absurd c (by omega)) (fun _ => ?_)
      refine g_iconst (q := 64) (v := (nI 0)) dX9_lays_63 rfl (by decide) ?_
      exact g_zret dX9_lays_64 rfl rfl ⟨rfl, va_up (va_up I3 16 (nI z.1)) 17 (nI z.2), hB, rfl, rfl, (fun i hi => ((q_fI.er i hi).trans ((hf3 i (by unfold q_o; omega) (by omega)).trans ((hf2 i (by unfold q_o; omega) (by omega)).trans (hf1 i (by unfold q_o; omega))))))⟩

set_option maxRecDepth 20000 in
set_option maxHeartbeats 1000000 in
theorem c_mlays3_0 {l : Launch} {E : bz_E} {L : List Nat} {g : Nat → va_E} {o : Nat} {I : Nat → Int32} {A : Nat → Nat → Int32} {b : Nat → Nat} {n : Nat} {t : Tok} {z : Nat × Nat × Tok} (hb : ∀ i, b i < 256) (hn : n ≤ 600) (h11 : I 11 = nI n) (h9 : ∀ i, i < 600 → A 9 i = s8 (b i)) (ht : t_is b n t) (hq : q_tk I t) (h16 : I 16 = nI 0) (hp : p_set b n 2 4 0 8 (t_nx b n t) = .inl z) (hH : bz_H L g o (b_Mod E o I A)) : bz_K l E mX9_lays 3 [.ref o, .ref (o + 3), .int (nI 2), .int (nI 4), .int (nI 0), .int (nI 8)] L g (fun r g1 => r = some (.int (nI 1)) ∧ ∃ I1 : Nat → Int32, bz_B L g g1 [(o, b_Mod E o I1 (va_up A 3 (upd (A 3) (8 + z.1) (nI z.2.1))))] ∧ q_tk I1 z.2.2 ∧ ∀ i, q_o i → i ≠ 18 → I1 i = I i) := by
  refine bz_K.of (by decide) (bz_le rfl) (fun sz => ?_)
  show bz_G _ _ _ _ _ _ _ _ _ _ _ _ 0 [(0, .ref o), (1, .ref (o + 3)), (2, .int (nI 2)), (3, .int (nI 4)), (4, .int (nI 0)), (5, .int (nI 8))] []
  have hB := bz_B.rf (bz_W.one hH)
  have hle := ht.le
  have htn0 : t_is b n (t_nx b n t) := (t_nx_is ht).1
  unfold p_set at hp
  cases hp1 : p_num b n 0 (2 - 1) (t_nx b n t) with
  | inr e => rw [hp1] at hp; cases hp
  | inl q1 =>
    rw [hp1] at hp
    dsimp only at hp
    have hg1 := p_num_go htn0 hp1
    have hb1 := p_num_l hp1
    cases hp2 : p_num b n 0 (4 - 1) q1.2 with
    | inr e => rw [hp2] at hp; cases hp
    | inl q2 =>
      rw [hp2] at hp
      dsimp only at hp
      have hg2 := p_num_go hg1.1 hp2
      have hb2 := p_num_l hp2
      cases hp3 : p_num b n 0 8 q2.2 with
      | inr e => rw [hp3] at hp; cases hp
      | inl q3 =>
      rw [hp3] at hp
      cases hp
      refine g_aload_n (q := 1) dX9_lays_0 rfl rfl ?_
      refine gb_callV (q := 4) (j := 0) (i := 0) dX9_lays_1 rfl kv_X9_139 (c_madvance (I := I) (A := A) (p := kE t) hb hn h11 h9 (by omega) hq.2.1 (hB.1.at (j := 0) rfl)) rfl (by decide) hB rfl rfl rfl rfl (bz_le rfl) (by decide) (by decide) (fun r g1 hQ => ?_)
      obtain ⟨rfl, I1, t1, h1, ht1, hq1, hf1⟩ := hQ
      have hB := hB.sp (j := 0) rfl 0 rfl h1 (bz_le rfl)
      have ht1 : t1 = t_nx b n t := ht1
      subst ht1
      have htn : t_is b n (t_nx b n t) := (t_nx_is ht).1
      refine g_aload_n (q := 5) dX9_lays_4 rfl rfl ?_
      refine g_iconst (q := 6) (v := (nI 0)) dX9_lays_5 rfl (by decide) ?_
      refine g_iload_n (q := 7) dX9_lays_6 rfl rfl ?_
      refine g_iconst (q := 8) (v := (nI 1)) dX9_lays_7 rfl (by decide) ?_
      refine g_isubN (q := 9) dX9_lays_8 rfl (bz_le rfl) ?_
      refine gb_callV (q := 12) (j := 0) (i := 0) dX9_lays_9 rfl kv_X9_155 (c_mtakes0 (I := I1) (A := A) (t := (t_nx b n t)) (lo := 0) (hi := 2 - 1) (z := q1) hb hn ((hf1 11 (Or.inl (by decide))).trans (h11)) h9 (by decide) (by decide) htn hq1 hp1 (hB.1.at (j := 0) rfl)) rfl (by decide) hB rfl rfl rfl rfl (bz_le rfl) (by decide) (by decide) (fun r g1 hQ => ?_)
      obtain ⟨rfl, I2, h1, hq2, h182, hf2⟩ := hQ
      have hB := hB.sp (j := 0) rfl 0 rfl h1 (bz_le rfl)
      refine g_ifN_ne (q := 15) (t := 17) dX9_lays_12 rfl (by decide) (by omega) (fun _ => ?_) (fun c => absurd c (by omega))
      refine g_aload_n (q := 18) dX9_lays_17 rfl rfl ?_
      refine gb_alen (q := 19) (j := 0) (i := 3) (t0 := 1) dX9_lays_18 rfl hB rfl rfl rfl rfl ?_
      refine g_iconst (q := 20) (v := (nI 2)) dX9_lays_19 rfl (by decide) ?_
      refine g_idiv (q := 21) dX9_lays_20 rfl (by decide) ?_
      refine g_eqi (v := nI (8)) (by decide) ?_
      refine g_iload_n (q := 22) dX9_lays_21 rfl rfl ?_
      refine g_aload_n (q := 23) dX9_lays_22 rfl rfl ?_
      refine gb_getf (q := 26) (j := 0) (i := 0) dX9_lays_23 rfl fl_X9_136 hB rfl rfl rfl rfl ?_
      refine g_eqi (v := nI (q1.1)) (h182) ?_
      refine g_imulN (q := 27) dX9_lays_26 rfl ?_
      refine g_iaddN (q := 28) dX9_lays_27 rfl ?_
      refine g_istore (q := 30) dX9_lays_28 rfl (by decide) rfl ?_
      refine g_aload_n (q := 31) dX9_lays_30 rfl rfl ?_
      refine g_iconst (q := 32) (v := (nI 0)) dX9_lays_31 rfl (by decide) ?_
      refine g_iload_n (q := 33) dX9_lays_32 rfl rfl ?_
      refine g_iconst (q := 34) (v := (nI 1)) dX9_lays_33 rfl (by decide) ?_
      refine g_isubN (q := 35) dX9_lays_34 rfl (bz_le rfl) ?_
      refine gb_callV (q := 38) (j := 0) (i := 0) dX9_lays_35 rfl kv_X9_155 (c_mtakes0 (I := I2) (A := A) (t := q1.2) (lo := 0) (hi := 4 - 1) (z := q2) hb hn ((hf2 11 (Or.inl (by decide)) (by decide)).trans ((hf1 11 (Or.inl (by decide))).trans (h11))) h9 (by decide) (by decide) hg1.1 hq2 hp2 (hB.1.at (j := 0) rfl)) rfl (by decide) hB rfl rfl rfl rfl (bz_le rfl) (by decide) (by decide) (fun r g1 hQ => ?_)
      obtain ⟨rfl, I3, h1, hq3, h183, hf3⟩ := hQ
      have hB := hB.sp (j := 0) rfl 0 rfl h1 (bz_le rfl)
      refine g_ifN_ne (q := 41) (t := 43) dX9_lays_38 rfl (by decide) (by omega) (fun _ => ?_) (fun c => absurd c (by omega))
      refine g_iload (q := 45) dX9_lays_43 rfl rfl ?_
      refine g_aload_n (q := 46) dX9_lays_45 rfl rfl ?_
      refine gb_getf (q := 49) (j := 0) (i := 0) dX9_lays_46 rfl fl_X9_136 hB rfl rfl rfl rfl ?_
      refine g_eqi (v := nI (q2.1)) (h183) ?_
      refine g_iaddN (q := 50) dX9_lays_49 rfl ?_
      refine g_istore (q := 52) dX9_lays_50 rfl (by decide) rfl ?_
      refine g_aload_n (q := 53) dX9_lays_52 rfl rfl ?_
      refine g_iload (q := 55) dX9_lays_53 rfl rfl ?_
      refine g_iload (q := 57) dX9_lays_55 rfl rfl ?_
      refine gb_callV (q := 60) (j := 0) (i := 0) dX9_lays_57 rfl kv_X9_155 (c_mtakes0 (I := I3) (A := A) (t := q2.2) (lo := 0) (hi := 8) (z := q3) hb hn ((hf3 11 (Or.inl (by decide)) (by decide)).trans ((hf2 11 (Or.inl (by decide)) (by decide)).trans ((hf1 11 (Or.inl (by decide))).trans (h11)))) h9 (by decide) (by decide) hg2.1 hq3 hp3 (hB.1.at (j := 0) rfl)) rfl (by decide) hB rfl rfl rfl rfl (bz_le rfl) (by decide) (by decide) (fun r g1 hQ => ?_)
      obtain ⟨rfl, I4, h1, hq4, h184, hf4⟩ := hQ
      have hB := hB.sp (j := 0) rfl 0 rfl h1 (bz_le rfl)
      refine g_ifN_ne (q := 63) (t := 65) dX9_lays_60 rfl (by decide) (by omega) (fun _ => ?_) (fun c => absurd c (by omega))
      refine g_aload_n (q := 66) dX9_lays_65 rfl rfl ?_
      refine g_iload (q := 68) dX9_lays_66 rfl rfl ?_
      refine g_aload_n (q := 69) dX9_lays_68 rfl rfl ?_
      refine gb_getf (q := 72) (j := 0) (i := 0) dX9_lays_69 rfl fl_X9_136 hB rfl rfl rfl rfl ?_
      refine g_eqi (v := nI (q3.1)) (h184) ?_
      refine gb_iastN (q := 73) (j := 0) (i := 3) dX9_lays_72 rfl hB rfl rfl rfl (by omega) (by decide) (fun g hB => ?_)
      refine g_iconst (q := 74) (v := (nI 1)) dX9_lays_73 rfl (by decide) ?_
      exact g_zret dX9_lays_74 rfl rfl ⟨rfl, I4, by rw [show 8 + 4 * q1.1 + q2.1 = 8 + (q1.1 * 4 + q2.1) by omega] at hB; exact hB, hq4, fun i h1 h2 => (hf4 i h1 h2).trans ((hf3 i h1 h2).trans ((hf2 i h1 h2).trans (hf1 i h1)))⟩

set_option maxRecDepth 20000 in
set_option maxHeartbeats 1000000 in
theorem c_mlays3_1 {l : Launch} {E : bz_E} {L : List Nat} {g : Nat → va_E} {o : Nat} {I : Nat → Int32} {A : Nat → Nat → Int32} {b : Nat → Nat} {n : Nat} {t : Tok} {z : Nat × Nat} (hb : ∀ i, b i < 256) (hn : n ≤ 600) (h11 : I 11 = nI n) (h9 : ∀ i, i < 600 → A 9 i = s8 (b i)) (ht : t_is b n t) (hq : q_tk I t) (h16 : I 16 = nI 0) (hp : p_set b n 2 4 0 8 (t_nx b n t) = .inr z) (hH : bz_H L g o (b_Mod E o I A)) : bz_K l E mX9_lays 3 [.ref o, .ref (o + 3), .int (nI 2), .int (nI 4), .int (nI 0), .int (nI 8)] L g (fun r g1 => r = some (.int (nI 0)) ∧ ∃ I1 : Nat → Int32, bz_B L g g1 [(o, b_Mod E o I1 A)] ∧ I1 16 = nI z.1 ∧ I1 17 = nI z.2 ∧ q_fI I I1) := by
  refine bz_K.of (by decide) (bz_le rfl) (fun sz => ?_)
  show bz_G _ _ _ _ _ _ _ _ _ _ _ _ 0 [(0, .ref o), (1, .ref (o + 3)), (2, .int (nI 2)), (3, .int (nI 4)), (4, .int (nI 0)), (5, .int (nI 8))] []
  have hB := bz_B.rf (bz_W.one hH)
  have hle := ht.le
  have htn0 : t_is b n (t_nx b n t) := (t_nx_is ht).1
  unfold p_set at hp
  cases hp1 : p_num b n 0 (2 - 1) (t_nx b n t) with
  | inr e =>
      rw [hp1] at hp
      cases hp
      refine g_aload_n (q := 1) dX9_lays_0 rfl rfl ?_
      refine gb_callV (q := 4) (j := 0) (i := 0) dX9_lays_1 rfl kv_X9_139 (c_madvance (I := I) (A := A) (p := kE t) hb hn h11 h9 (by omega) hq.2.1 (hB.1.at (j := 0) rfl)) rfl (by decide) hB rfl rfl rfl rfl (bz_le rfl) (by decide) (by decide) (fun r g1 hQ => ?_)
      obtain ⟨rfl, I1, t1, h1, ht1, hq1, hf1⟩ := hQ
      have hB := hB.sp (j := 0) rfl 0 rfl h1 (bz_le rfl)
      have ht1 : t1 = t_nx b n t := ht1
      subst ht1
      have htn : t_is b n (t_nx b n t) := (t_nx_is ht).1
      refine g_aload_n (q := 5) dX9_lays_4 rfl rfl ?_
      refine g_iconst (q := 6) (v := (nI 0)) dX9_lays_5 rfl (by decide) ?_
      refine g_iload_n (q := 7) dX9_lays_6 rfl rfl ?_
      refine g_iconst (q := 8) (v := (nI 1)) dX9_lays_7 rfl (by decide) ?_
      refine g_isubN (q := 9) dX9_lays_8 rfl (bz_le rfl) ?_
      refine gb_callV (q := 12) (j := 0) (i := 0) dX9_lays_9 rfl kv_X9_155 (c_mtakes1 (I := I1) (A := A) (t := (t_nx b n t)) (lo := 0) (hi := 2 - 1) (e := z) hb hn ((hf1 11 (Or.inl (by decide))).trans (h11)) h9 (by decide) (by decide) htn hq1 ((hf1 16 (Or.inr (by decide))).trans (h16)) hp1 (hB.1.at (j := 0) rfl)) rfl (by decide) hB rfl rfl rfl rfl (bz_le rfl) (by decide) (by decide) (fun r g1 hQ => ?_)
      obtain ⟨rfl, h1⟩ := hQ
      have hB := hB.sp (j := 0) rfl 0 rfl h1 (bz_le rfl)
      refine g_ifN_ne (q := 15) (t := 17) dX9_lays_12 rfl (by decide) (by omega) (fun c => absurd c (by omega)) (fun _ => ?_)
      refine g_iconst (q := 16) (v := (nI 0)) dX9_lays_15 rfl (by decide) ?_
      exact g_zret dX9_lays_16 rfl rfl ⟨rfl, va_up (va_up I1 16 (nI z.1)) 17 (nI z.2), hB, rfl, rfl, (fun i hi => ((q_fI.er i hi).trans (hf1 i (by unfold q_o; omega))))⟩
  | inl q1 =>
    rw [hp1] at hp
    dsimp only at hp
    have hg1 := p_num_go htn0 hp1
    have hb1 := p_num_l hp1
    cases hp2 : p_num b n 0 (4 - 1) q1.2 with
    | inr e =>
      rw [hp2] at hp
      cases hp
      refine g_aload_n (q := 1) dX9_lays_0 rfl rfl ?_
      refine gb_callV (q := 4) (j := 0) (i := 0) dX9_lays_1 rfl kv_X9_139 (c_madvance (I := I) (A := A) (p := kE t) hb hn h11 h9 (by omega) hq.2.1 (hB.1.at (j := 0) rfl)) rfl (by decide) hB rfl rfl rfl rfl (bz_le rfl) (by decide) (by decide) (fun r g1 hQ => ?_)
      obtain ⟨rfl, I1, t1, h1, ht1, hq1, hf1⟩ := hQ
      have hB := hB.sp (j := 0) rfl 0 rfl h1 (bz_le rfl)
      have ht1 : t1 = t_nx b n t := ht1
      subst ht1
      have htn : t_is b n (t_nx b n t) := (t_nx_is ht).1
      refine g_aload_n (q := 5) dX9_lays_4 rfl rfl ?_
      refine g_iconst (q := 6) (v := (nI 0)) dX9_lays_5 rfl (by decide) ?_
      refine g_iload_n (q := 7) dX9_lays_6 rfl rfl ?_
      refine g_iconst (q := 8) (v := (nI 1)) dX9_lays_7 rfl (by decide) ?_
      refine g_isubN (q := 9) dX9_lays_8 rfl (bz_le rfl) ?_
      refine gb_callV (q := 12) (j := 0) (i := 0) dX9_lays_9 rfl kv_X9_155 (c_mtakes0 (I := I1) (A := A) (t := (t_nx b n t)) (lo := 0) (hi := 2 - 1) (z := q1) hb hn ((hf1 11 (Or.inl (by decide))).trans (h11)) h9 (by decide) (by decide) htn hq1 hp1 (hB.1.at (j := 0) rfl)) rfl (by decide) hB rfl rfl rfl rfl (bz_le rfl) (by decide) (by decide) (fun r g1 hQ => ?_)
      obtain ⟨rfl, I2, h1, hq2, h182, hf2⟩ := hQ
      have hB := hB.sp (j := 0) rfl 0 rfl h1 (bz_le rfl)
      refine g_ifN_ne (q := 15) (t := 17) dX9_lays_12 rfl (by decide) (by omega) (fun _ => ?_) (fun c => absurd c (by omega))
      refine g_aload_n (q := 18) dX9_lays_17 rfl rfl ?_
      refine gb_alen (q := 19) (j := 0) (i := 3) (t0 := 1) dX9_lays_18 rfl hB rfl rfl rfl rfl ?_
      refine g_iconst (q := 20) (v := (nI 2)) dX9_lays_19 rfl (by decide) ?_
      refine g_idiv (q := 21) dX9_lays_20 rfl (by decide) ?_
      refine g_eqi (v := nI (8)) (by decide) ?_
      refine g_iload_n (q := 22) dX9_lays_21 rfl rfl ?_
      refine g_aload_n (q := 23) dX9_lays_22 rfl rfl ?_
      refine gb_getf (q := 26) (j := 0) (i := 0) dX9_lays_23 rfl fl_X9_136 hB rfl rfl rfl rfl ?_
      refine g_eqi (v := nI (q1.1)) (h182) ?_
      refine g_imulN (q := 27) dX9_lays_26 rfl ?_
      refine g_iaddN (q := 28) dX9_lays_27 rfl ?_
      refine g_istore (q := 30) dX9_lays_28 rfl (by decide) rfl ?_
      refine g_aload_n (q := 31) dX9_lays_30 rfl rfl ?_
      refine g_iconst (q := 32) (v := (nI 0)) dX9_lays_31 rfl (by decide) ?_
      refine g_iload_n (q := 33) dX9_lays_32 rfl rfl ?_
      refine g_iconst (q := 34) (v := (nI 1)) dX9_lays_33 rfl (by decide) ?_
      refine g_isubN (q := 35) dX9_lays_34 rfl (bz_le rfl) ?_
      refine gb_callV (q := 38) (j := 0) (i := 0) dX9_lays_35 rfl kv_X9_155 (c_mtakes1 (I := I2) (A := A) (t := q1.2) (lo := 0) (hi := 4 - 1) (e := z) hb hn ((hf2 11 (Or.inl (by decide)) (by decide)).trans ((hf1 11 (Or.inl (by decide))).trans (h11))) h9 (by decide) (by decide) hg1.1 hq2 ((hf2 16 (Or.inr (by decide)) (by decide)).trans ((hf1 16 (Or.inr (by decide))).trans (h16))) hp2 (hB.1.at (j := 0) rfl)) rfl (by decide) hB rfl rfl rfl rfl (bz_le rfl) (by decide) (by decide) (fun r g1 hQ => ?_)
      obtain ⟨rfl, h1⟩ := hQ
      have hB := hB.sp (j := 0) rfl 0 rfl h1 (bz_le rfl)
      refine g_ifN_ne (q := 41) (t := 43) dX9_lays_38 rfl (by decide) (by omega) (fun c => absurd c (by omega)) (fun _ => ?_)
      refine g_iconst (q := 42) (v := (nI 0)) dX9_lays_41 rfl (by decide) ?_
      exact g_zret dX9_lays_42 rfl rfl ⟨rfl, va_up (va_up I2 16 (nI z.1)) 17 (nI z.2), hB, rfl, rfl, (fun i hi => ((q_fI.er i hi).trans ((hf2 i (by unfold q_o; omega) (by omega)).trans (hf1 i (by unfold q_o; omega)))))⟩
    | inl q2 =>
      rw [hp2] at hp
      dsimp only at hp
      have hg2 := p_num_go hg1.1 hp2
      have hb2 := p_num_l hp2
      cases hp3 : p_num b n 0 8 q2.2 with
      | inl q3 => rw [hp3] at hp; cases hp
      | inr e =>
      rw [hp3] at hp
      cases hp
      refine g_aload_n (q := 1) dX9_lays_0 rfl rfl ?_
      refine gb_callV (q := 4) (j := 0) (i := 0) dX9_lays_1 rfl kv_X9_139 (c_madvance (I := I) (A := A) (p := kE t) hb hn h11 h9 (by omega) hq.2.1 (hB.1.at (j := 0) rfl)) rfl (by decide) hB rfl rfl rfl rfl (bz_le rfl) (by decide) (by decide) (fun r g1 hQ => ?_)
      obtain ⟨rfl, I1, t1, h1, ht1, hq1, hf1⟩ := hQ
      have hB := hB.sp (j := 0) rfl 0 rfl h1 (bz_le rfl)
      have ht1 : t1 = t_nx b n t := ht1
      subst ht1
      have htn : t_is b n (t_nx b n t) := (t_nx_is ht).1
      refine g_aload_n (q := 5) dX9_lays_4 rfl rfl ?_
      refine g_iconst (q := 6) (v := (nI 0)) dX9_lays_5 rfl (by decide) ?_
      refine g_iload_n (q := 7) dX9_lays_6 rfl rfl ?_
      refine g_iconst (q := 8) (v := (nI 1)) dX9_lays_7 rfl (by decide) ?_
      refine g_isubN (q := 9) dX9_lays_8 rfl (bz_le rfl) ?_
      refine gb_callV (q := 12) (j := 0) (i := 0) dX9_lays_9 rfl kv_X9_155 (c_mtakes0 (I := I1) (A := A) (t := (t_nx b n t)) (lo := 0) (hi := 2 - 1) (z := q1) hb hn ((hf1 11 (Or.inl (by decide))).trans (h11)) h9 (by decide) (by decide) htn hq1 hp1 (hB.1.at (j := 0) rfl)) rfl (by decide) hB rfl rfl rfl rfl (bz_le rfl) (by decide) (by decide) (fun r g1 hQ => ?_)
      obtain ⟨rfl, I2, h1, hq2, h182, hf2⟩ := hQ
      have hB := hB.sp (j := 0) rfl 0 rfl h1 (bz_le rfl)
      refine g_ifN_ne (q := 15) (t := 17) dX9_lays_12 rfl (by decide) (by omega) (fun _ => ?_) (fun c => absurd c (by omega))
      refine g_aload_n (q := 18) dX9_lays_17 rfl rfl ?_
      refine gb_alen (q := 19) (j := 0) (i := 3) (t0 := 1) dX9_lays_18 rfl hB rfl rfl rfl rfl ?_
      refine g_iconst (q := 20) (v := (nI 2)) dX9_lays_19 rfl (by decide) ?_
      refine g_idiv (q := 21) dX9_lays_20 rfl (by decide) ?_
      refine g_eqi (v := nI (8)) (by decide) ?_
      refine g_iload_n (q := 22) dX9_lays_21 rfl rfl ?_
      refine g_aload_n (q := 23) dX9_lays_22 rfl rfl ?_
      refine gb_getf (q := 26) (j := 0) (i := 0) dX9_lays_23 rfl fl_X9_136 hB rfl rfl rfl rfl ?_
      refine g_eqi (v := nI (q1.1)) (h182) ?_
      refine g_imulN (q := 27) dX9_lays_26 rfl ?_
      refine g_iaddN (q := 28) dX9_lays_27 rfl ?_
      refine g_istore (q := 30) dX9_lays_28 rfl (by decide) rfl ?_
      refine g_aload_n (q := 31) dX9_lays_30 rfl rfl ?_
      refine g_iconst (q := 32) (v := (nI 0)) dX9_lays_31 rfl (by decide) ?_
      refine g_iload_n (q := 33) dX9_lays_32 rfl rfl ?_
      refine g_iconst (q := 34) (v := (nI 1)) dX9_lays_33 rfl (by decide) ?_
      refine g_isubN (q := 35) dX9_lays_34 rfl (bz_le rfl) ?_
      refine gb_callV (q := 38) (j := 0) (i := 0) dX9_lays_35 rfl kv_X9_155 (c_mtakes0 (I := I2) (A := A) (t := q1.2) (lo := 0) (hi := 4 - 1) (z := q2) hb hn ((hf2 11 (Or.inl (by decide)) (by decide)).trans ((hf1 11 (Or.inl (by decide))).trans (h11))) h9 (by decide) (by decide) hg1.1 hq2 hp2 (hB.1.at (j := 0) rfl)) rfl (by decide) hB rfl rfl rfl rfl (bz_le rfl) (by decide) (by decide) (fun r g1 hQ => ?_)
      obtain ⟨rfl, I3, h1, hq3, h183, hf3⟩ := hQ
      have hB := hB.sp (j := 0) rfl 0 rfl h1 (bz_le rfl)
      refine g_ifN_ne (q := 41) (t := 43) dX9_lays_38 rfl (by decide) (by omega) (fun _ => ?_) (fun c => absurd c (by omega))
      refine g_iload (q := 45) dX9_lays_43 rfl rfl ?_
      refine g_aload_n (q := 46) dX9_lays_45 rfl rfl ?_
      refine gb_getf (q := 49) (j := 0) (i := 0) dX9_lays_46 rfl fl_X9_136 hB rfl rfl rfl rfl ?_
      refine g_eqi (v := nI (q2.1)) (h183) ?_
      refine g_iaddN (q := 50) dX9_lays_49 rfl ?_
      refine g_istore (q := 52) dX9_lays_50 rfl (by decide) rfl ?_
      refine g_aload_n (q := 53) dX9_lays_52 rfl rfl ?_
      refine g_iload (q := 55) dX9_lays_53 rfl rfl ?_
      refine g_iload (q := 57) dX9_lays_55 rfl rfl ?_
      refine gb_callV (q := 60) (j := 0) (i := 0) dX9_lays_57 rfl kv_X9_155 (c_mtakes1 (I := I3) (A := A) (t := q2.2) (lo := 0) (hi := 8) (e := z) hb hn ((hf3 11 (Or.inl (by decide)) (by decide)).trans ((hf2 11 (Or.inl (by decide)) (by decide)).trans ((hf1 11 (Or.inl (by decide))).trans (h11)))) h9 (by decide) (by decide) hg2.1 hq3 ((hf3 16 (Or.inr (by decide)) (by decide)).trans ((hf2 16 (Or.inr (by decide)) (by decide)).trans ((hf1 16 (Or.inr (by decide))).trans (h16)))) hp3 (hB.1.at (j := 0) rfl)) rfl (by decide) hB rfl rfl rfl rfl (bz_le rfl) (by decide) (by decide) (fun r g1 hQ => ?_)
      obtain ⟨rfl, h1⟩ := hQ
      have hB := hB.sp (j := 0) rfl 0 rfl h1 (bz_le rfl)
      refine g_ifN_ne (q := 63) (t := 65) dX9_lays_60 rfl (by decide) (by omega) (fun c => absurd c (by omega)) (fun _ => ?_)
      refine g_iconst (q := 64) (v := (nI 0)) dX9_lays_63 rfl (by decide) ?_
      exact g_zret dX9_lays_64 rfl rfl ⟨rfl, va_up (va_up I3 16 (nI z.1)) 17 (nI z.2), hB, rfl, rfl, (fun i hi => ((q_fI.er i hi).trans ((hf3 i (by unfold q_o; omega) (by omega)).trans ((hf2 i (by unfold q_o; omega) (by omega)).trans (hf1 i (by unfold q_o; omega))))))⟩

set_option maxRecDepth 20000 in
set_option maxHeartbeats 1000000 in
theorem c_mlays4_0 {l : Launch} {E : bz_E} {L : List Nat} {g : Nat → va_E} {o : Nat} {I : Nat → Int32} {A : Nat → Nat → Int32} {b : Nat → Nat} {n : Nat} {t : Tok} {z : Nat × Nat × Tok} (hb : ∀ i, b i < 256) (hn : n ≤ 600) (h11 : I 11 = nI n) (h9 : ∀ i, i < 600 → A 9 i = s8 (b i)) (ht : t_is b n t) (hq : q_tk I t) (h16 : I 16 = nI 0) (hp : p_set b n 4 4 0 1 (t_nx b n t) = .inl z) (hH : bz_H L g o (b_Mod E o I A)) : bz_K l E mX9_lays 3 [.ref o, .ref (o + 4), .int (nI 4), .int (nI 4), .int (nI 0), .int (nI 1)] L g (fun r g1 => r = some (.int (nI 1)) ∧ ∃ I1 : Nat → Int32, bz_B L g g1 [(o, b_Mod E o I1 (va_up A 4 (upd (A 4) (16 + z.1) (nI z.2.1))))] ∧ q_tk I1 z.2.2 ∧ ∀ i, q_o i → i ≠ 18 → I1 i = I i) := by
  refine bz_K.of (by decide) (bz_le rfl) (fun sz => ?_)
  show bz_G _ _ _ _ _ _ _ _ _ _ _ _ 0 [(0, .ref o), (1, .ref (o + 4)), (2, .int (nI 4)), (3, .int (nI 4)), (4, .int (nI 0)), (5, .int (nI 1))] []
  have hB := bz_B.rf (bz_W.one hH)
  have hle := ht.le
  have htn0 : t_is b n (t_nx b n t) := (t_nx_is ht).1
  unfold p_set at hp
  cases hp1 : p_num b n 0 (4 - 1) (t_nx b n t) with
  | inr e => rw [hp1] at hp; cases hp
  | inl q1 =>
    rw [hp1] at hp
    dsimp only at hp
    have hg1 := p_num_go htn0 hp1
    have hb1 := p_num_l hp1
    cases hp2 : p_num b n 0 (4 - 1) q1.2 with
    | inr e => rw [hp2] at hp; cases hp
    | inl q2 =>
      rw [hp2] at hp
      dsimp only at hp
      have hg2 := p_num_go hg1.1 hp2
      have hb2 := p_num_l hp2
      cases hp3 : p_num b n 0 1 q2.2 with
      | inr e => rw [hp3] at hp; cases hp
      | inl q3 =>
      rw [hp3] at hp
      cases hp
      refine g_aload_n (q := 1) dX9_lays_0 rfl rfl ?_
      refine gb_callV (q := 4) (j := 0) (i := 0) dX9_lays_1 rfl kv_X9_139 (c_madvance (I := I) (A := A) (p := kE t) hb hn h11 h9 (by omega) hq.2.1 (hB.1.at (j := 0) rfl)) rfl (by decide) hB rfl rfl rfl rfl (bz_le rfl) (by decide) (by decide) (fun r g1 hQ => ?_)
      obtain ⟨rfl, I1, t1, h1, ht1, hq1, hf1⟩ := hQ
      have hB := hB.sp (j := 0) rfl 0 rfl h1 (bz_le rfl)
      have ht1 : t1 = t_nx b n t := ht1
      subst ht1
      have htn : t_is b n (t_nx b n t) := (t_nx_is ht).1
      refine g_aload_n (q := 5) dX9_lays_4 rfl rfl ?_
      refine g_iconst (q := 6) (v := (nI 0)) dX9_lays_5 rfl (by decide) ?_
      refine g_iload_n (q := 7) dX9_lays_6 rfl rfl ?_
      refine g_iconst (q := 8) (v := (nI 1)) dX9_lays_7 rfl (by decide) ?_
      refine g_isubN (q := 9) dX9_lays_8 rfl (bz_le rfl) ?_
      refine gb_callV (q := 12) (j := 0) (i := 0) dX9_lays_9 rfl kv_X9_155 (c_mtakes0 (I := I1) (A := A) (t := (t_nx b n t)) (lo := 0) (hi := 4 - 1) (z := q1) hb hn ((hf1 11 (Or.inl (by decide))).trans (h11)) h9 (by decide) (by decide) htn hq1 hp1 (hB.1.at (j := 0) rfl)) rfl (by decide) hB rfl rfl rfl rfl (bz_le rfl) (by decide) (by decide) (fun r g1 hQ => ?_)
      obtain ⟨rfl, I2, h1, hq2, h182, hf2⟩ := hQ
      have hB := hB.sp (j := 0) rfl 0 rfl h1 (bz_le rfl)
      refine g_ifN_ne (q := 15) (t := 17) dX9_lays_12 rfl (by decide) (by omega) (fun _ => ?_) (fun c => absurd c (by omega))
      refine g_aload_n (q := 18) dX9_lays_17 rfl rfl ?_
      refine gb_alen (q := 19) (j := 0) (i := 4) (t0 := 1) dX9_lays_18 rfl hB rfl rfl rfl rfl ?_
      refine g_iconst (q := 20) (v := (nI 2)) dX9_lays_19 rfl (by decide) ?_
      refine g_idiv (q := 21) dX9_lays_20 rfl (by decide) ?_
      refine g_eqi (v := nI (16)) (by decide) ?_
      refine g_iload_n (q := 22) dX9_lays_21 rfl rfl ?_
      refine g_aload_n (q := 23) dX9_lays_22 rfl rfl ?_
      refine gb_getf (q := 26) (j := 0) (i := 0) dX9_lays_23 rfl fl_X9_136 hB rfl rfl rfl rfl ?_
      refine g_eqi (v := nI (q1.1)) (h182) ?_
      refine g_imulN (q := 27) dX9_lays_26 rfl ?_
      refine g_iaddN (q := 28) dX9_lays_27 rfl ?_
      refine g_istore (q := 30) dX9_lays_28 rfl (by decide) rfl ?_
      refine g_aload_n (q := 31) dX9_lays_30 rfl rfl ?_
      refine g_iconst (q := 32) (v := (nI 0)) dX9_lays_31 rfl (by decide) ?_
      refine g_iload_n (q := 33) dX9_lays_32 rfl rfl ?_
      refine g_iconst (q := 34) (v := (nI 1)) dX9_lays_33 rfl (by decide) ?_
      refine g_isubN (q := 35) dX9_lays_34 rfl (bz_le rfl) ?_
      refine gb_callV (q := 38) (j := 0) (i := 0) dX9_lays_35 rfl kv_X9_155 (c_mtakes0 (I := I2) (A := A) (t := q1.2) (lo := 0) (hi := 4 - 1) (z := q2) hb hn ((hf2 11 (Or.inl (by decide)) (by decide)).trans ((hf1 11 (Or.inl (by decide))).trans (h11))) h9 (by decide) (by decide) hg1.1 hq2 hp2 (hB.1.at (j := 0) rfl)) rfl (by decide) hB rfl rfl rfl rfl (bz_le rfl) (by decide) (by decide) (fun r g1 hQ => ?_)
      obtain ⟨rfl, I3, h1, hq3, h183, hf3⟩ := hQ
      have hB := hB.sp (j := 0) rfl 0 rfl h1 (bz_le rfl)
      refine g_ifN_ne (q := 41) (t := 43) dX9_lays_38 rfl (by decide) (by omega) (fun _ => ?_) (fun c => absurd c (by omega))
      refine g_iload (q := 45) dX9_lays_43 rfl rfl ?_
      refine g_aload_n (q := 46) dX9_lays_45 rfl rfl ?_
      refine gb_getf (q := 49) (j := 0) (i := 0) dX9_lays_46 rfl fl_X9_136 hB rfl rfl rfl rfl ?_
      refine g_eqi (v := nI (q2.1)) (h183) ?_
      refine g_iaddN (q := 50) dX9_lays_49 rfl ?_
      refine g_istore (q := 52) dX9_lays_50 rfl (by decide) rfl ?_
      refine g_aload_n (q := 53) dX9_lays_52 rfl rfl ?_
      refine g_iload (q := 55) dX9_lays_53 rfl rfl ?_
      refine g_iload (q := 57) dX9_lays_55 rfl rfl ?_
      refine gb_callV (q := 60) (j := 0) (i := 0) dX9_lays_57 rfl kv_X9_155 (c_mtakes0 (I := I3) (A := A) (t := q2.2) (lo := 0) (hi := 1) (z := q3) hb hn ((hf3 11 (Or.inl (by decide)) (by decide)).trans ((hf2 11 (Or.inl (by decide)) (by decide)).trans ((hf1 11 (Or.inl (by decide))).trans (h11)))) h9 (by decide) (by decide) hg2.1 hq3 hp3 (hB.1.at (j := 0) rfl)) rfl (by decide) hB rfl rfl rfl rfl (bz_le rfl) (by decide) (by decide) (fun r g1 hQ => ?_)
      obtain ⟨rfl, I4, h1, hq4, h184, hf4⟩ := hQ
      have hB := hB.sp (j := 0) rfl 0 rfl h1 (bz_le rfl)
      refine g_ifN_ne (q := 63) (t := 65) dX9_lays_60 rfl (by decide) (by omega) (fun _ => ?_) (fun c => absurd c (by omega))
      refine g_aload_n (q := 66) dX9_lays_65 rfl rfl ?_
      refine g_iload (q := 68) dX9_lays_66 rfl rfl ?_
      refine g_aload_n (q := 69) dX9_lays_68 rfl rfl ?_
      refine gb_getf (q := 72) (j := 0) (i := 0) dX9_lays_69 rfl fl_X9_136 hB rfl rfl rfl rfl ?_
      refine g_eqi (v := nI (q3.1)) (h184) ?_
      refine gb_iastN (q := 73) (j := 0) (i := 4) dX9_lays_72 rfl hB rfl rfl rfl (by omega) (by decide) (fun g hB => ?_)
      refine g_iconst (q := 74) (v := (nI 1)) dX9_lays_73 rfl (by decide) ?_
      exact g_zret dX9_lays_74 rfl rfl ⟨rfl, I4, by rw [show 16 + 4 * q1.1 + q2.1 = 16 + (q1.1 * 4 + q2.1) by omega] at hB; exact hB, hq4, fun i h1 h2 => (hf4 i h1 h2).trans ((hf3 i h1 h2).trans ((hf2 i h1 h2).trans (hf1 i h1)))⟩

set_option maxRecDepth 20000 in
set_option maxHeartbeats 1000000 in
theorem c_mlays4_1 {l : Launch} {E : bz_E} {L : List Nat} {g : Nat → va_E} {o : Nat} {I : Nat → Int32} {A : Nat → Nat → Int32} {b : Nat → Nat} {n : Nat} {t : Tok} {z : Nat × Nat} (hb : ∀ i, b i < 256) (hn : n ≤ 600) (h11 : I 11 = nI n) (h9 : ∀ i, i < 600 → A 9 i = s8 (b i)) (ht : t_is b n t) (hq : q_tk I t) (h16 : I 16 = nI 0) (hp : p_set b n 4 4 0 1 (t_nx b n t) = .inr z) (hH : bz_H L g o (b_Mod E o I A)) : bz_K l E mX9_lays 3 [.ref o, .ref (o + 4), .int (nI 4), .int (nI 4), .int (nI 0), .int (nI 1)] L g (fun r g1 => r = some (.int (nI 0)) ∧ ∃ I1 : Nat → Int32, bz_B L g g1 [(o, b_Mod E o I1 A)] ∧ I1 16 = nI z.1 ∧ I1 17 = nI z.2 ∧ q_fI I I1) := by
  refine bz_K.of (by decide) (bz_le rfl) (fun sz => ?_)
  show bz_G _ _ _ _ _ _ _ _ _ _ _ _ 0 [(0, .ref o), (1, .ref (o + 4)), (2, .int (nI 4)), (3, .int (nI 4)), (4, .int (nI 0)), (5, .int (nI 1))] []
  have hB := bz_B.rf (bz_W.one hH)
  have hle := ht.le
  have htn0 : t_is b n (t_nx b n t) := (t_nx_is ht).1
  unfold p_set at hp
  cases hp1 : p_num b n 0 (4 - 1) (t_nx b n t) with
  | inr e =>
      rw [hp1] at hp
      cases hp
      refine g_aload_n (q := 1) dX9_lays_0 rfl rfl ?_
      refine gb_callV (q := 4) (j := 0) (i := 0) dX9_lays_1 rfl kv_X9_139 (c_madvance (I := I) (A := A) (p := kE t) hb hn h11 h9 (by omega) hq.2.1 (hB.1.at (j := 0) rfl)) rfl (by decide) hB rfl rfl rfl rfl (bz_le rfl) (by decide) (by decide) (fun r g1 hQ => ?_)
      obtain ⟨rfl, I1, t1, h1, ht1, hq1, hf1⟩ := hQ
      have hB := hB.sp (j := 0) rfl 0 rfl h1 (bz_le rfl)
      have ht1 : t1 = t_nx b n t := ht1
      subst ht1
      have htn : t_is b n (t_nx b n t) := (t_nx_is ht).1
      refine g_aload_n (q := 5) dX9_lays_4 rfl rfl ?_
      refine g_iconst (q := 6) (v := (nI 0)) dX9_lays_5 rfl (by decide) ?_
      refine g_iload_n (q := 7) dX9_lays_6 rfl rfl ?_
      refine g_iconst (q := 8) (v := (nI 1)) dX9_lays_7 rfl (by decide) ?_
      refine g_isubN (q := 9) dX9_lays_8 rfl (bz_le rfl) ?_
      refine gb_callV (q := 12) (j := 0) (i := 0) dX9_lays_9 rfl kv_X9_155 (c_mtakes1 (I := I1) (A := A) (t := (t_nx b n t)) (lo := 0) (hi := 4 - 1) (e := z) hb hn ((hf1 11 (Or.inl (by decide))).trans (h11)) h9 (by decide) (by decide) htn hq1 ((hf1 16 (Or.inr (by decide))).trans (h16)) hp1 (hB.1.at (j := 0) rfl)) rfl (by decide) hB rfl rfl rfl rfl (bz_le rfl) (by decide) (by decide) (fun r g1 hQ => ?_)
      obtain ⟨rfl, h1⟩ := hQ
      have hB := hB.sp (j := 0) rfl 0 rfl h1 (bz_le rfl)
      refine g_ifN_ne (q := 15) (t := 17) dX9_lays_12 rfl (by decide) (by omega) (fun c => absurd c (by omega)) (fun _ => ?_)
      refine g_iconst (q := 16) (v := (nI 0)) dX9_lays_15 rfl (by decide) ?_
      exact g_zret dX9_lays_16 rfl rfl ⟨rfl, va_up (va_up I1 16 (nI z.1)) 17 (nI z.2), hB, rfl, rfl, (fun i hi => ((q_fI.er i hi).trans (hf1 i (by unfold q_o; omega))))⟩
  | inl q1 =>
    rw [hp1] at hp
    dsimp only at hp
    have hg1 := p_num_go htn0 hp1
    have hb1 := p_num_l hp1
    cases hp2 : p_num b n 0 (4 - 1) q1.2 with
    | inr e =>
      rw [hp2] at hp
      cases hp
      refine g_aload_n (q := 1) dX9_lays_0 rfl rfl ?_
      refine gb_callV (q := 4) (j := 0) (i := 0) dX9_lays_1 rfl kv_X9_139 (c_madvance (I := I) (A := A) (p := kE t) hb hn h11 h9 (by omega) hq.2.1 (hB.1.at (j := 0) rfl)) rfl (by decide) hB rfl rfl rfl rfl (bz_le rfl) (by decide) (by decide) (fun r g1 hQ => ?_)
      obtain ⟨rfl, I1, t1, h1, ht1, hq1, hf1⟩ := hQ
      have hB := hB.sp (j := 0) rfl 0 rfl h1 (bz_le rfl)
      have ht1 : t1 = t_nx b n t := ht1
      subst ht1
      have htn : t_is b n (t_nx b n t) := (t_nx_is ht).1
      refine g_aload_n (q := 5) dX9_lays_4 rfl rfl ?_
      refine g_iconst (q := 6) (v := (nI 0)) dX9_lays_5 rfl (by decide) ?_
      refine g_iload_n (q := 7) dX9_lays_6 rfl rfl ?_
      refine g_iconst (q := 8) (v := (nI 1)) dX9_lays_7 rfl (by decide) ?_
      refine g_isubN (q := 9) dX9_lays_8 rfl (bz_le rfl) ?_
      refine gb_callV (q := 12) (j := 0) (i := 0) dX9_lays_9 rfl kv_X9_155 (c_mtakes0 (I := I1) (A := A) (t := (t_nx b n t)) (lo := 0) (hi := 4 - 1) (z := q1) hb hn ((hf1 11 (Or.inl (by decide))).trans (h11)) h9 (by decide) (by decide) htn hq1 hp1 (hB.1.at (j := 0) rfl)) rfl (by decide) hB rfl rfl rfl rfl (bz_le rfl) (by decide) (by decide) (fun r g1 hQ => ?_)
      obtain ⟨rfl, I2, h1, hq2, h182, hf2⟩ := hQ
      have hB := hB.sp (j := 0) rfl 0 rfl h1 (bz_le rfl)
      refine g_ifN_ne (q := 15) (t := 17) dX9_lays_12 rfl (by decide) (by omega) (fun _ => ?_) (fun c => absurd c (by omega))
      refine g_aload_n (q := 18) dX9_lays_17 rfl rfl ?_
      refine gb_alen (q := 19) (j := 0) (i := 4) (t0 := 1) dX9_lays_18 rfl hB rfl rfl rfl rfl ?_
      refine g_iconst (q := 20) (v := (nI 2)) dX9_lays_19 rfl (by decide) ?_
      refine g_idiv (q := 21) dX9_lays_20 rfl (by decide) ?_
      refine g_eqi (v := nI (16)) (by decide) ?_
      refine g_iload_n (q := 22) dX9_lays_21 rfl rfl ?_
      refine g_aload_n (q := 23) dX9_lays_22 rfl rfl ?_
      refine gb_getf (q := 26) (j := 0) (i := 0) dX9_lays_23 rfl fl_X9_136 hB rfl rfl rfl rfl ?_
      refine g_eqi (v := nI (q1.1)) (h182) ?_
      refine g_imulN (q := 27) dX9_lays_26 rfl ?_
      refine g_iaddN (q := 28) dX9_lays_27 rfl ?_
      refine g_istore (q := 30) dX9_lays_28 rfl (by decide) rfl ?_
      refine g_aload_n (q := 31) dX9_lays_30 rfl rfl ?_
      refine g_iconst (q := 32) (v := (nI 0)) dX9_lays_31 rfl (by decide) ?_
      refine g_iload_n (q := 33) dX9_lays_32 rfl rfl ?_
      refine g_iconst (q := 34) (v := (nI 1)) dX9_lays_33 rfl (by decide) ?_
      refine g_isubN (q := 35) dX9_lays_34 rfl (bz_le rfl) ?_
      refine gb_callV (q := 38) (j := 0) (i := 0) dX9_lays_35 rfl kv_X9_155 (c_mtakes1 (I := I2) (A := A) (t := q1.2) (lo := 0) (hi := 4 - 1) (e := z) hb hn ((hf2 11 (Or.inl (by decide)) (by decide)).trans ((hf1 11 (Or.inl (by decide))).trans (h11))) h9 (by decide) (by decide) hg1.1 hq2 ((hf2 16 (Or.inr (by decide)) (by decide)).trans ((hf1 16 (Or.inr (by decide))).trans (h16))) hp2 (hB.1.at (j := 0) rfl)) rfl (by decide) hB rfl rfl rfl rfl (bz_le rfl) (by decide) (by decide) (fun r g1 hQ => ?_)
      obtain ⟨rfl, h1⟩ := hQ
      have hB := hB.sp (j := 0) rfl 0 rfl h1 (bz_le rfl)
      refine g_ifN_ne (q := 41) (t := 43) dX9_lays_38 rfl (by decide) (by omega) (fun c => absurd c (by omega)) (fun _ => ?_)
      refine g_iconst (q := 42) (v := (nI 0)) dX9_lays_41 rfl (by decide) ?_
      exact g_zret dX9_lays_42 rfl rfl ⟨rfl, va_up (va_up I2 16 (nI z.1)) 17 (nI z.2), hB, rfl, rfl, (fun i hi => ((q_fI.er i hi).trans ((hf2 i (by unfold q_o; omega) (by omega)).trans (hf1 i (by unfold q_o; omega)))))⟩
    | inl q2 =>
      rw [hp2] at hp
      dsimp only at hp
      have hg2 := p_num_go hg1.1 hp2
      have hb2 := p_num_l hp2
      cases hp3 : p_num b n 0 1 q2.2 with
      | inl q3 => rw [hp3] at hp; cases hp
      | inr e =>
      rw [hp3] at hp
      cases hp
      refine g_aload_n (q := 1) dX9_lays_0 rfl rfl ?_
      refine gb_callV (q := 4) (j := 0) (i := 0) dX9_lays_1 rfl kv_X9_139 (c_madvance (I := I) (A := A) (p := kE t) hb hn h11 h9 (by omega) hq.2.1 (hB.1.at (j := 0) rfl)) rfl (by decide) hB rfl rfl rfl rfl (bz_le rfl) (by decide) (by decide) (fun r g1 hQ => ?_)
      obtain ⟨rfl, I1, t1, h1, ht1, hq1, hf1⟩ := hQ
      have hB := hB.sp (j := 0) rfl 0 rfl h1 (bz_le rfl)
      have ht1 : t1 = t_nx b n t := ht1
      subst ht1
      have htn : t_is b n (t_nx b n t) := (t_nx_is ht).1
      refine g_aload_n (q := 5) dX9_lays_4 rfl rfl ?_
      refine g_iconst (q := 6) (v := (nI 0)) dX9_lays_5 rfl (by decide) ?_
      refine g_iload_n (q := 7) dX9_lays_6 rfl rfl ?_
      refine g_iconst (q := 8) (v := (nI 1)) dX9_lays_7 rfl (by decide) ?_
      refine g_isubN (q := 9) dX9_lays_8 rfl (bz_le rfl) ?_
      refine gb_callV (q := 12) (j := 0) (i := 0) dX9_lays_9 rfl kv_X9_155 (c_mtakes0 (I := I1) (A := A) (t := (t_nx b n t)) (lo := 0) (hi := 4 - 1) (z := q1) hb hn ((hf1 11 (Or.inl (by decide))).trans (h11)) h9 (by decide) (by decide) htn hq1 hp1 (hB.1.at (j := 0) rfl)) rfl (by decide) hB rfl rfl rfl rfl (bz_le rfl) (by decide) (by decide) (fun r g1 hQ => ?_)
      obtain ⟨rfl, I2, h1, hq2, h182, hf2⟩ := hQ
      have hB := hB.sp (j := 0) rfl 0 rfl h1 (bz_le rfl)
      refine g_ifN_ne (q := 15) (t := 17) dX9_lays_12 rfl (by decide) (by omega) (fun _ => ?_) (fun c => absurd c (by omega))
      refine g_aload_n (q := 18) dX9_lays_17 rfl rfl ?_
      refine gb_alen (q := 19) (j := 0) (i := 4) (t0 := 1) dX9_lays_18 rfl hB rfl rfl rfl rfl ?_
      refine g_iconst (q := 20) (v := (nI 2)) dX9_lays_19 rfl (by decide) ?_
      refine g_idiv (q := 21) dX9_lays_20 rfl (by decide) ?_
      refine g_eqi (v := nI (16)) (by decide) ?_
      refine g_iload_n (q := 22) dX9_lays_21 rfl rfl ?_
      refine g_aload_n (q := 23) dX9_lays_22 rfl rfl ?_
      refine gb_getf (q := 26) (j := 0) (i := 0) dX9_lays_23 rfl fl_X9_136 hB rfl rfl rfl rfl ?_
      refine g_eqi (v := nI (q1.1)) (h182) ?_
      refine g_imulN (q := 27) dX9_lays_26 rfl ?_
      refine g_iaddN (q := 28) dX9_lays_27 rfl ?_
      refine g_istore (q := 30) dX9_lays_28 rfl (by decide) rfl ?_
      refine g_aload_n (q := 31) dX9_lays_30 rfl rfl ?_
      refine g_iconst (q := 32) (v := (nI 0)) dX9_lays_31 rfl (by decide) ?_
      refine g_iload_n (q := 33) dX9_lays_32 rfl rfl ?_
      refine g_iconst (q := 34) (v := (nI 1)) dX9_lays_33 rfl (by decide) ?_
      refine g_isubN (q := 35) dX9_lays_34 rfl (bz_le rfl) ?_
      refine gb_callV (q := 38) (j := 0) (i := 0) dX9_lays_35 rfl kv_X9_155 (c_mtakes0 (I := I2) (A := A) (t := q1.2) (lo := 0) (hi := 4 - 1) (z := q2) hb hn ((hf2 11 (Or.inl (by decide)) (by decide)).trans ((hf1 11 (Or.inl (by decide))).trans (h11))) h9 (by decide) (by decide) hg1.1 hq2 hp2 (hB.1.at (j := 0) rfl)) rfl (by decide) hB rfl rfl rfl rfl (bz_le rfl) (by decide) (by decide) (fun r g1 hQ => ?_)
      obtain ⟨rfl, I3, h1, hq3, h183, hf3⟩ := hQ
      have hB := hB.sp (j := 0) rfl 0 rfl h1 (bz_le rfl)
      refine g_ifN_ne (q := 41) (t := 43) dX9_lays_38 rfl (by decide) (by omega) (fun _ => ?_) (fun c => absurd c (by omega))
      refine g_iload (q := 45) dX9_lays_43 rfl rfl ?_
      refine g_aload_n (q := 46) dX9_lays_45 rfl rfl ?_
      refine gb_getf (q := 49) (j := 0) (i := 0) dX9_lays_46 rfl fl_X9_136 hB rfl rfl rfl rfl ?_
      refine g_eqi (v := nI (q2.1)) (h183) ?_
      refine g_iaddN (q := 50) dX9_lays_49 rfl ?_
      refine g_istore (q := 52) dX9_lays_50 rfl (by decide) rfl ?_
      refine g_aload_n (q := 53) dX9_lays_52 rfl rfl ?_
      refine g_iload (q := 55) dX9_lays_53 rfl rfl ?_
      refine g_iload (q := 57) dX9_lays_55 rfl rfl ?_
      refine gb_callV (q := 60) (j := 0) (i := 0) dX9_lays_57 rfl kv_X9_155 (c_mtakes1 (I := I3) (A := A) (t := q2.2) (lo := 0) (hi := 1) (e := z) hb hn ((hf3 11 (Or.inl (by decide)) (by decide)).trans ((hf2 11 (Or.inl (by decide)) (by decide)).trans ((hf1 11 (Or.inl (by decide))).trans (h11)))) h9 (by decide) (by decide) hg2.1 hq3 ((hf3 16 (Or.inr (by decide)) (by decide)).trans ((hf2 16 (Or.inr (by decide)) (by decide)).trans ((hf1 16 (Or.inr (by decide))).trans (h16)))) hp3 (hB.1.at (j := 0) rfl)) rfl (by decide) hB rfl rfl rfl rfl (bz_le rfl) (by decide) (by decide) (fun r g1 hQ => ?_)
      obtain ⟨rfl, h1⟩ := hQ
      have hB := hB.sp (j := 0) rfl 0 rfl h1 (bz_le rfl)
      refine g_ifN_ne (q := 63) (t := 65) dX9_lays_60 rfl (by decide) (by omega) (fun c => absurd c (by omega)) (fun _ => ?_)
      refine g_iconst (q := 64) (v := (nI 0)) dX9_lays_63 rfl (by decide) ?_
      exact g_zret dX9_lays_64 rfl rfl ⟨rfl, va_up (va_up I3 16 (nI z.1)) 17 (nI z.2), hB, rfl, rfl, (fun i hi => ((q_fI.er i hi).trans ((hf3 i (by unfold q_o; omega) (by omega)).trans ((hf2 i (by unfold q_o; omega) (by omega)).trans (hf1 i (by unfold q_o; omega))))))⟩

set_option maxRecDepth 20000 in
set_option maxHeartbeats 1000000 in
theorem c_mlays5_0 {l : Launch} {E : bz_E} {L : List Nat} {g : Nat → va_E} {o : Nat} {I : Nat → Int32} {A : Nat → Nat → Int32} {b : Nat → Nat} {n : Nat} {t : Tok} {z : Nat × Nat × Tok} (hb : ∀ i, b i < 256) (hn : n ≤ 600) (h11 : I 11 = nI n) (h9 : ∀ i, i < 600 → A 9 i = s8 (b i)) (ht : t_is b n t) (hq : q_tk I t) (h16 : I 16 = nI 0) (hp : p_set b n 2 16 0 9999 (t_nx b n t) = .inl z) (hH : bz_H L g o (b_Mod E o I A)) : bz_K l E mX9_lays 3 [.ref o, .ref (o + 5), .int (nI 2), .int (nI 16), .int (nI 0), .int (nI 9999)] L g (fun r g1 => r = some (.int (nI 1)) ∧ ∃ I1 : Nat → Int32, bz_B L g g1 [(o, b_Mod E o I1 (va_up A 5 (upd (A 5) (32 + z.1) (nI z.2.1))))] ∧ q_tk I1 z.2.2 ∧ ∀ i, q_o i → i ≠ 18 → I1 i = I i) := by
  refine bz_K.of (by decide) (bz_le rfl) (fun sz => ?_)
  show bz_G _ _ _ _ _ _ _ _ _ _ _ _ 0 [(0, .ref o), (1, .ref (o + 5)), (2, .int (nI 2)), (3, .int (nI 16)), (4, .int (nI 0)), (5, .int (nI 9999))] []
  have hB := bz_B.rf (bz_W.one hH)
  have hle := ht.le
  have htn0 : t_is b n (t_nx b n t) := (t_nx_is ht).1
  unfold p_set at hp
  cases hp1 : p_num b n 0 (2 - 1) (t_nx b n t) with
  | inr e => rw [hp1] at hp; cases hp
  | inl q1 =>
    rw [hp1] at hp
    dsimp only at hp
    have hg1 := p_num_go htn0 hp1
    have hb1 := p_num_l hp1
    cases hp2 : p_num b n 0 (16 - 1) q1.2 with
    | inr e => rw [hp2] at hp; cases hp
    | inl q2 =>
      rw [hp2] at hp
      dsimp only at hp
      have hg2 := p_num_go hg1.1 hp2
      have hb2 := p_num_l hp2
      cases hp3 : p_num b n 0 9999 q2.2 with
      | inr e => rw [hp3] at hp; cases hp
      | inl q3 =>
      rw [hp3] at hp
      cases hp
      refine g_aload_n (q := 1) dX9_lays_0 rfl rfl ?_
      refine gb_callV (q := 4) (j := 0) (i := 0) dX9_lays_1 rfl kv_X9_139 (c_madvance (I := I) (A := A) (p := kE t) hb hn h11 h9 (by omega) hq.2.1 (hB.1.at (j := 0) rfl)) rfl (by decide) hB rfl rfl rfl rfl (bz_le rfl) (by decide) (by decide) (fun r g1 hQ => ?_)
      obtain ⟨rfl, I1, t1, h1, ht1, hq1, hf1⟩ := hQ
      have hB := hB.sp (j := 0) rfl 0 rfl h1 (bz_le rfl)
      have ht1 : t1 = t_nx b n t := ht1
      subst ht1
      have htn : t_is b n (t_nx b n t) := (t_nx_is ht).1
      refine g_aload_n (q := 5) dX9_lays_4 rfl rfl ?_
      refine g_iconst (q := 6) (v := (nI 0)) dX9_lays_5 rfl (by decide) ?_
      refine g_iload_n (q := 7) dX9_lays_6 rfl rfl ?_
      refine g_iconst (q := 8) (v := (nI 1)) dX9_lays_7 rfl (by decide) ?_
      refine g_isubN (q := 9) dX9_lays_8 rfl (bz_le rfl) ?_
      refine gb_callV (q := 12) (j := 0) (i := 0) dX9_lays_9 rfl kv_X9_155 (c_mtakes0 (I := I1) (A := A) (t := (t_nx b n t)) (lo := 0) (hi := 2 - 1) (z := q1) hb hn ((hf1 11 (Or.inl (by decide))).trans (h11)) h9 (by decide) (by decide) htn hq1 hp1 (hB.1.at (j := 0) rfl)) rfl (by decide) hB rfl rfl rfl rfl (bz_le rfl) (by decide) (by decide) (fun r g1 hQ => ?_)
      obtain ⟨rfl, I2, h1, hq2, h182, hf2⟩ := hQ
      have hB := hB.sp (j := 0) rfl 0 rfl h1 (bz_le rfl)
      refine g_ifN_ne (q := 15) (t := 17) dX9_lays_12 rfl (by decide) (by omega) (fun _ => ?_) (fun c => absurd c (by omega))
      refine g_aload_n (q := 18) dX9_lays_17 rfl rfl ?_
      refine gb_alen (q := 19) (j := 0) (i := 5) (t0 := 1) dX9_lays_18 rfl hB rfl rfl rfl rfl ?_
      refine g_iconst (q := 20) (v := (nI 2)) dX9_lays_19 rfl (by decide) ?_
      refine g_idiv (q := 21) dX9_lays_20 rfl (by decide) ?_
      refine g_eqi (v := nI (32)) (by decide) ?_
      refine g_iload_n (q := 22) dX9_lays_21 rfl rfl ?_
      refine g_aload_n (q := 23) dX9_lays_22 rfl rfl ?_
      refine gb_getf (q := 26) (j := 0) (i := 0) dX9_lays_23 rfl fl_X9_136 hB rfl rfl rfl rfl ?_
      refine g_eqi (v := nI (q1.1)) (h182) ?_
      refine g_imulN (q := 27) dX9_lays_26 rfl ?_
      refine g_iaddN (q := 28) dX9_lays_27 rfl ?_
      refine g_istore (q := 30) dX9_lays_28 rfl (by decide) rfl ?_
      refine g_aload_n (q := 31) dX9_lays_30 rfl rfl ?_
      refine g_iconst (q := 32) (v := (nI 0)) dX9_lays_31 rfl (by decide) ?_
      refine g_iload_n (q := 33) dX9_lays_32 rfl rfl ?_
      refine g_iconst (q := 34) (v := (nI 1)) dX9_lays_33 rfl (by decide) ?_
      refine g_isubN (q := 35) dX9_lays_34 rfl (bz_le rfl) ?_
      refine gb_callV (q := 38) (j := 0) (i := 0) dX9_lays_35 rfl kv_X9_155 (c_mtakes0 (I := I2) (A := A) (t := q1.2) (lo := 0) (hi := 16 - 1) (z := q2) hb hn ((hf2 11 (Or.inl (by decide)) (by decide)).trans ((hf1 11 (Or.inl (by decide))).trans (h11))) h9 (by decide) (by decide) hg1.1 hq2 hp2 (hB.1.at (j := 0) rfl)) rfl (by decide) hB rfl rfl rfl rfl (bz_le rfl) (by decide) (by decide) (fun r g1 hQ => ?_)
      obtain ⟨rfl, I3, h1, hq3, h183, hf3⟩ := hQ
      have hB := hB.sp (j := 0) rfl 0 rfl h1 (bz_le rfl)
      refine g_ifN_ne (q := 41) (t := 43) dX9_lays_38 rfl (by decide) (by omega) (fun _ => ?_) (fun c => absurd c (by omega))
      refine g_iload (q := 45) dX9_lays_43 rfl rfl ?_
      refine g_aload_n (q := 46) dX9_lays_45 rfl rfl ?_
      refine gb_getf (q := 49) (j := 0) (i := 0) dX9_lays_46 rfl fl_X9_136 hB rfl rfl rfl rfl ?_
      refine g_eqi (v := nI (q2.1)) (h183) ?_
      refine g_iaddN (q := 50) dX9_lays_49 rfl ?_
      refine g_istore (q := 52) dX9_lays_50 rfl (by decide) rfl ?_
      refine g_aload_n (q := 53) dX9_lays_52 rfl rfl ?_
      refine g_iload (q := 55) dX9_lays_53 rfl rfl ?_
      refine g_iload (q := 57) dX9_lays_55 rfl rfl ?_
      refine gb_callV (q := 60) (j := 0) (i := 0) dX9_lays_57 rfl kv_X9_155 (c_mtakes0 (I := I3) (A := A) (t := q2.2) (lo := 0) (hi := 9999) (z := q3) hb hn ((hf3 11 (Or.inl (by decide)) (by decide)).trans ((hf2 11 (Or.inl (by decide)) (by decide)).trans ((hf1 11 (Or.inl (by decide))).trans (h11)))) h9 (by decide) (by decide) hg2.1 hq3 hp3 (hB.1.at (j := 0) rfl)) rfl (by decide) hB rfl rfl rfl rfl (bz_le rfl) (by decide) (by decide) (fun r g1 hQ => ?_)
      obtain ⟨rfl, I4, h1, hq4, h184, hf4⟩ := hQ
      have hB := hB.sp (j := 0) rfl 0 rfl h1 (bz_le rfl)
      refine g_ifN_ne (q := 63) (t := 65) dX9_lays_60 rfl (by decide) (by omega) (fun _ => ?_) (fun c => absurd c (by omega))
      refine g_aload_n (q := 66) dX9_lays_65 rfl rfl ?_
      refine g_iload (q := 68) dX9_lays_66 rfl rfl ?_
      refine g_aload_n (q := 69) dX9_lays_68 rfl rfl ?_
      refine gb_getf (q := 72) (j := 0) (i := 0) dX9_lays_69 rfl fl_X9_136 hB rfl rfl rfl rfl ?_
      refine g_eqi (v := nI (q3.1)) (h184) ?_
      refine gb_iastN (q := 73) (j := 0) (i := 5) dX9_lays_72 rfl hB rfl rfl rfl (by omega) (by decide) (fun g hB => ?_)
      refine g_iconst (q := 74) (v := (nI 1)) dX9_lays_73 rfl (by decide) ?_
      exact g_zret dX9_lays_74 rfl rfl ⟨rfl, I4, by rw [show 32 + 16 * q1.1 + q2.1 = 32 + (q1.1 * 16 + q2.1) by omega] at hB; exact hB, hq4, fun i h1 h2 => (hf4 i h1 h2).trans ((hf3 i h1 h2).trans ((hf2 i h1 h2).trans (hf1 i h1)))⟩

set_option maxRecDepth 20000 in
set_option maxHeartbeats 1000000 in
theorem c_mlays5_1 {l : Launch} {E : bz_E} {L : List Nat} {g : Nat → va_E} {o : Nat} {I : Nat → Int32} {A : Nat → Nat → Int32} {b : Nat → Nat} {n : Nat} {t : Tok} {z : Nat × Nat} (hb : ∀ i, b i < 256) (hn : n ≤ 600) (h11 : I 11 = nI n) (h9 : ∀ i, i < 600 → A 9 i = s8 (b i)) (ht : t_is b n t) (hq : q_tk I t) (h16 : I 16 = nI 0) (hp : p_set b n 2 16 0 9999 (t_nx b n t) = .inr z) (hH : bz_H L g o (b_Mod E o I A)) : bz_K l E mX9_lays 3 [.ref o, .ref (o + 5), .int (nI 2), .int (nI 16), .int (nI 0), .int (nI 9999)] L g (fun r g1 => r = some (.int (nI 0)) ∧ ∃ I1 : Nat → Int32, bz_B L g g1 [(o, b_Mod E o I1 A)] ∧ I1 16 = nI z.1 ∧ I1 17 = nI z.2 ∧ q_fI I I1) := by
  refine bz_K.of (by decide) (bz_le rfl) (fun sz => ?_)
  show bz_G _ _ _ _ _ _ _ _ _ _ _ _ 0 [(0, .ref o), (1, .ref (o + 5)), (2, .int (nI 2)), (3, .int (nI 16)), (4, .int (nI 0)), (5, .int (nI 9999))] []
  have hB := bz_B.rf (bz_W.one hH)
  have hle := ht.le
  have htn0 : t_is b n (t_nx b n t) := (t_nx_is ht).1
  unfold p_set at hp
  cases hp1 : p_num b n 0 (2 - 1) (t_nx b n t) with
  | inr e =>
      rw [hp1] at hp
      cases hp
      refine g_aload_n (q := 1) dX9_lays_0 rfl rfl ?_
      refine gb_callV (q := 4) (j := 0) (i := 0) dX9_lays_1 rfl kv_X9_139 (c_madvance (I := I) (A := A) (p := kE t) hb hn h11 h9 (by omega) hq.2.1 (hB.1.at (j := 0) rfl)) rfl (by decide) hB rfl rfl rfl rfl (bz_le rfl) (by decide) (by decide) (fun r g1 hQ => ?_)
      obtain ⟨rfl, I1, t1, h1, ht1, hq1, hf1⟩ := hQ
      have hB := hB.sp (j := 0) rfl 0 rfl h1 (bz_le rfl)
      have ht1 : t1 = t_nx b n t := ht1
      subst ht1
      have htn : t_is b n (t_nx b n t) := (t_nx_is ht).1
      refine g_aload_n (q := 5) dX9_lays_4 rfl rfl ?_
      refine g_iconst (q := 6) (v := (nI 0)) dX9_lays_5 rfl (by decide) ?_
      refine g_iload_n (q := 7) dX9_lays_6 rfl rfl ?_
      refine g_iconst (q := 8) (v := (nI 1)) dX9_lays_7 rfl (by decide) ?_
      refine g_isubN (q := 9) dX9_lays_8 rfl (bz_le rfl) ?_
      refine gb_callV (q := 12) (j := 0) (i := 0) dX9_lays_9 rfl kv_X9_155 (c_mtakes1 (I := I1) (A := A) (t := (t_nx b n t)) (lo := 0) (hi := 2 - 1) (e := z) hb hn ((hf1 11 (Or.inl (by decide))).trans (h11)) h9 (by decide) (by decide) htn hq1 ((hf1 16 (Or.inr (by decide))).trans (h16)) hp1 (hB.1.at (j := 0) rfl)) rfl (by decide) hB rfl rfl rfl rfl (bz_le rfl) (by decide) (by decide) (fun r g1 hQ => ?_)
      obtain ⟨rfl, h1⟩ := hQ
      have hB := hB.sp (j := 0) rfl 0 rfl h1 (bz_le rfl)
      refine g_ifN_ne (q := 15) (t := 17) dX9_lays_12 rfl (by decide) (by omega) (fun c => absurd c (by omega)) (fun _ => ?_)
      refine g_iconst (q := 16) (v := (nI 0)) dX9_lays_15 rfl (by decide) ?_
      exact g_zret dX9_lays_16 rfl rfl ⟨rfl, va_up (va_up I1 16 (nI z.1)) 17 (nI z.2), hB, rfl, rfl, (fun i hi => ((q_fI.er i hi).trans (hf1 i (by unfold q_o; omega))))⟩
  | inl q1 =>
    rw [hp1] at hp
    dsimp only at hp
    have hg1 := p_num_go htn0 hp1
    have hb1 := p_num_l hp1
    cases hp2 : p_num b n 0 (16 - 1) q1.2 with
    | inr e =>
      rw [hp2] at hp
      cases hp
      refine g_aload_n (q := 1) dX9_lays_0 rfl rfl ?_
      refine gb_callV (q := 4) (j := 0) (i := 0) dX9_lays_1 rfl kv_X9_139 (c_madvance (I := I) (A := A) (p := kE t) hb hn h11 h9 (by omega) hq.2.1 (hB.1.at (j := 0) rfl)) rfl (by decide) hB rfl rfl rfl rfl (bz_le rfl) (by decide) (by decide) (fun r g1 hQ => ?_)
      obtain ⟨rfl, I1, t1, h1, ht1, hq1, hf1⟩ := hQ
      have hB := hB.sp (j := 0) rfl 0 rfl h1 (bz_le rfl)
      have ht1 : t1 = t_nx b n t := ht1
      subst ht1
      have htn : t_is b n (t_nx b n t) := (t_nx_is ht).1
      refine g_aload_n (q := 5) dX9_lays_4 rfl rfl ?_
      refine g_iconst (q := 6) (v := (nI 0)) dX9_lays_5 rfl (by decide) ?_
      refine g_iload_n (q := 7) dX9_lays_6 rfl rfl ?_
      refine g_iconst (q := 8) (v := (nI 1)) dX9_lays_7 rfl (by decide) ?_
      refine g_isubN (q := 9) dX9_lays_8 rfl (bz_le rfl) ?_
      refine gb_callV (q := 12) (j := 0) (i := 0) dX9_lays_9 rfl kv_X9_155 (c_mtakes0 (I := I1) (A := A) (t := (t_nx b n t)) (lo := 0) (hi := 2 - 1) (z := q1) hb hn ((hf1 11 (Or.inl (by decide))).trans (h11)) h9 (by decide) (by decide) htn hq1 hp1 (hB.1.at (j := 0) rfl)) rfl (by decide) hB rfl rfl rfl rfl (bz_le rfl) (by decide) (by decide) (fun r g1 hQ => ?_)
      obtain ⟨rfl, I2, h1, hq2, h182, hf2⟩ := hQ
      have hB := hB.sp (j := 0) rfl 0 rfl h1 (bz_le rfl)
      refine g_ifN_ne (q := 15) (t := 17) dX9_lays_12 rfl (by decide) (by omega) (fun _ => ?_) (fun c => absurd c (by omega))
      refine g_aload_n (q := 18) dX9_lays_17 rfl rfl ?_
      refine gb_alen (q := 19) (j := 0) (i := 5) (t0 := 1) dX9_lays_18 rfl hB rfl rfl rfl rfl ?_
      refine g_iconst (q := 20) (v := (nI 2)) dX9_lays_19 rfl (by decide) ?_
      refine g_idiv (q := 21) dX9_lays_20 rfl (by decide) ?_
      refine g_eqi (v := nI (32)) (by decide) ?_
      refine g_iload_n (q := 22) dX9_lays_21 rfl rfl ?_
      refine g_aload_n (q := 23) dX9_lays_22 rfl rfl ?_
      refine gb_getf (q := 26) (j := 0) (i := 0) dX9_lays_23 rfl fl_X9_136 hB rfl rfl rfl rfl ?_
      refine g_eqi (v := nI (q1.1)) (h182) ?_
      refine g_imulN (q := 27) dX9_lays_26 rfl ?_
      refine g_iaddN (q := 28) dX9_lays_27 rfl ?_
      refine g_istore (q := 30) dX9_lays_28 rfl (by decide) rfl ?_
      refine g_aload_n (q := 31) dX9_lays_30 rfl rfl ?_
      refine g_iconst (q := 32) (v := (nI 0)) dX9_lays_31 rfl (by decide) ?_
      refine g_iload_n (q := 33) dX9_lays_32 rfl rfl ?_
      refine g_iconst (q := 34) (v := (nI 1)) dX9_lays_33 rfl (by decide) ?_
      refine g_isubN (q := 35) dX9_lays_34 rfl (bz_le rfl) ?_
      refine gb_callV (q := 38) (j := 0) (i := 0) dX9_lays_35 rfl kv_X9_155 (c_mtakes1 (I := I2) (A := A) (t := q1.2) (lo := 0) (hi := 16 - 1) (e := z) hb hn ((hf2 11 (Or.inl (by decide)) (by decide)).trans ((hf1 11 (Or.inl (by decide))).trans (h11))) h9 (by decide) (by decide) hg1.1 hq2 ((hf2 16 (Or.inr (by decide)) (by decide)).trans ((hf1 16 (Or.inr (by decide))).trans (h16))) hp2 (hB.1.at (j := 0) rfl)) rfl (by decide) hB rfl rfl rfl rfl (bz_le rfl) (by decide) (by decide) (fun r g1 hQ => ?_)
      obtain ⟨rfl, h1⟩ := hQ
      have hB := hB.sp (j := 0) rfl 0 rfl h1 (bz_le rfl)
      refine g_ifN_ne (q := 41) (t := 43) dX9_lays_38 rfl (by decide) (by omega) (fun c => absurd c (by omega)) (fun _ => ?_)
      refine g_iconst (q := 42) (v := (nI 0)) dX9_lays_41 rfl (by decide) ?_
      exact g_zret dX9_lays_42 rfl rfl ⟨rfl, va_up (va_up I2 16 (nI z.1)) 17 (nI z.2), hB, rfl, rfl, (fun i hi => ((q_fI.er i hi).trans ((hf2 i (by unfold q_o; omega) (by omega)).trans (hf1 i (by unfold q_o; omega)))))⟩
    | inl q2 =>
      rw [hp2] at hp
      dsimp only at hp
      have hg2 := p_num_go hg1.1 hp2
      have hb2 := p_num_l hp2
      cases hp3 : p_num b n 0 9999 q2.2 with
      | inl q3 => rw [hp3] at hp; cases hp
      | inr e =>
      rw [hp3] at hp
      cases hp
      refine g_aload_n (q := 1) dX9_lays_0 rfl rfl ?_
      refine gb_callV (q := 4) (j := 0) (i := 0) dX9_lays_1 rfl kv_X9_139 (c_madvance (I := I) (A := A) (p := kE t) hb hn h11 h9 (by omega) hq.2.1 (hB.1.at (j := 0) rfl)) rfl (by decide) hB rfl rfl rfl rfl (bz_le rfl) (by decide) (by decide) (fun r g1 hQ => ?_)
      obtain ⟨rfl, I1, t1, h1, ht1, hq1, hf1⟩ := hQ
      have hB := hB.sp (j := 0) rfl 0 rfl h1 (bz_le rfl)
      have ht1 : t1 = t_nx b n t := ht1
      subst ht1
      have htn : t_is b n (t_nx b n t) := (t_nx_is ht).1
      refine g_aload_n (q := 5) dX9_lays_4 rfl rfl ?_
      refine g_iconst (q := 6) (v := (nI 0)) dX9_lays_5 rfl (by decide) ?_
      refine g_iload_n (q := 7) dX9_lays_6 rfl rfl ?_
      refine g_iconst (q := 8) (v := (nI 1)) dX9_lays_7 rfl (by decide) ?_
      refine g_isubN (q := 9) dX9_lays_8 rfl (bz_le rfl) ?_
      refine gb_callV (q := 12) (j := 0) (i := 0) dX9_lays_9 rfl kv_X9_155 (c_mtakes0 (I := I1) (A := A) (t := (t_nx b n t)) (lo := 0) (hi := 2 - 1) (z := q1) hb hn ((hf1 11 (Or.inl (by decide))).trans (h11)) h9 (by decide) (by decide) htn hq1 hp1 (hB.1.at (j := 0) rfl)) rfl (by decide) hB rfl rfl rfl rfl (bz_le rfl) (by decide) (by decide) (fun r g1 hQ => ?_)
      obtain ⟨rfl, I2, h1, hq2, h182, hf2⟩ := hQ
      have hB := hB.sp (j := 0) rfl 0 rfl h1 (bz_le rfl)
      refine g_ifN_ne (q := 15) (t := 17) dX9_lays_12 rfl (by decide) (by omega) (fun _ => ?_) (fun c => absurd c (by omega))
      refine g_aload_n (q := 18) dX9_lays_17 rfl rfl ?_
      refine gb_alen (q := 19) (j := 0) (i := 5) (t0 := 1) dX9_lays_18 rfl hB rfl rfl rfl rfl ?_
      refine g_iconst (q := 20) (v := (nI 2)) dX9_lays_19 rfl (by decide) ?_
      refine g_idiv (q := 21) dX9_lays_20 rfl (by decide) ?_
      refine g_eqi (v := nI (32)) (by decide) ?_
      refine g_iload_n (q := 22) dX9_lays_21 rfl rfl ?_
      refine g_aload_n (q := 23) dX9_lays_22 rfl rfl ?_
      refine gb_getf (q := 26) (j := 0) (i := 0) dX9_lays_23 rfl fl_X9_136 hB rfl rfl rfl rfl ?_
      refine g_eqi (v := nI (q1.1)) (h182) ?_
      refine g_imulN (q := 27) dX9_lays_26 rfl ?_
      refine g_iaddN (q := 28) dX9_lays_27 rfl ?_
      refine g_istore (q := 30) dX9_lays_28 rfl (by decide) rfl ?_
      refine g_aload_n (q := 31) dX9_lays_30 rfl rfl ?_
      refine g_iconst (q := 32) (v := (nI 0)) dX9_lays_31 rfl (by decide) ?_
      refine g_iload_n (q := 33) dX9_lays_32 rfl rfl ?_
      refine g_iconst (q := 34) (v := (nI 1)) dX9_lays_33 rfl (by decide) ?_
      refine g_isubN (q := 35) dX9_lays_34 rfl (bz_le rfl) ?_
      refine gb_callV (q := 38) (j := 0) (i := 0) dX9_lays_35 rfl kv_X9_155 (c_mtakes0 (I := I2) (A := A) (t := q1.2) (lo := 0) (hi := 16 - 1) (z := q2) hb hn ((hf2 11 (Or.inl (by decide)) (by decide)).trans ((hf1 11 (Or.inl (by decide))).trans (h11))) h9 (by decide) (by decide) hg1.1 hq2 hp2 (hB.1.at (j := 0) rfl)) rfl (by decide) hB rfl rfl rfl rfl (bz_le rfl) (by decide) (by decide) (fun r g1 hQ => ?_)
      obtain ⟨rfl, I3, h1, hq3, h183, hf3⟩ := hQ
      have hB := hB.sp (j := 0) rfl 0 rfl h1 (bz_le rfl)
      refine g_ifN_ne (q := 41) (t := 43) dX9_lays_38 rfl (by decide) (by omega) (fun _ => ?_) (fun c => absurd c (by omega))
      refine g_iload (q := 45) dX9_lays_43 rfl rfl ?_
      refine g_aload_n (q := 46) dX9_lays_45 rfl rfl ?_
      refine gb_getf (q := 49) (j := 0) (i := 0) dX9_lays_46 rfl fl_X9_136 hB rfl rfl rfl rfl ?_
      refine g_eqi (v := nI (q2.1)) (h183) ?_
      refine g_iaddN (q := 50) dX9_lays_49 rfl ?_
      refine g_istore (q := 52) dX9_lays_50 rfl (by decide) rfl ?_
      refine g_aload_n (q := 53) dX9_lays_52 rfl rfl ?_
      refine g_iload (q := 55) dX9_lays_53 rfl rfl ?_
      refine g_iload (q := 57) dX9_lays_55 rfl rfl ?_
      refine gb_callV (q := 60) (j := 0) (i := 0) dX9_lays_57 rfl kv_X9_155 (c_mtakes1 (I := I3) (A := A) (t := q2.2) (lo := 0) (hi := 9999) (e := z) hb hn ((hf3 11 (Or.inl (by decide)) (by decide)).trans ((hf2 11 (Or.inl (by decide)) (by decide)).trans ((hf1 11 (Or.inl (by decide))).trans (h11)))) h9 (by decide) (by decide) hg2.1 hq3 ((hf3 16 (Or.inr (by decide)) (by decide)).trans ((hf2 16 (Or.inr (by decide)) (by decide)).trans ((hf1 16 (Or.inr (by decide))).trans (h16)))) hp3 (hB.1.at (j := 0) rfl)) rfl (by decide) hB rfl rfl rfl rfl (bz_le rfl) (by decide) (by decide) (fun r g1 hQ => ?_)
      obtain ⟨rfl, h1⟩ := hQ
      have hB := hB.sp (j := 0) rfl 0 rfl h1 (bz_le rfl)
      refine g_ifN_ne (q := 63) (t := 65) dX9_lays_60 rfl (by decide) (by omega) (fun c => absurd c (by omega)) (fun _ => ?_)
      refine g_iconst (q := 64) (v := (nI 0)) dX9_lays_63 rfl (by decide) ?_
      exact g_zret dX9_lays_64 rfl rfl ⟨rfl, va_up (va_up I3 16 (nI z.1)) 17 (nI z.2), hB, rfl, rfl, (fun i hi => ((q_fI.er i hi).trans ((hf3 i (by unfold q_o; omega) (by omega)).trans ((hf2 i (by unfold q_o; omega) (by omega)).trans (hf1 i (by unfold q_o; omega))))))⟩

