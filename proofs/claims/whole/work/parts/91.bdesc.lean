/-! class BridgeText: describe -/
theorem d_def_rep {zs cs ts ws v0 i0 v1 i1 : Nat → Int32} : d_rep (v_fill zs (nI 4) 8, v_fill cs (nI 2) 8, v_lp (v_lp (v_lp (v_lp (v_fill ts (nI 0) 16) 0 1 (3 + 1)) 1 1 (2 + 1)) 2 1 (2 + 1)) 3 1 (3 + 1), v_fill ws (nI 0) 32, v0, upd i0 0 (nI 1), nI (0 + 1), v1, upd i1 0 (nI 1), nI (0 + 1), nI 2, nI 4) d_0 := by
  have h1 : ∀ f : Nat → Int32, k_it (upd f 0 (nI 1)) [nI 1] := fun f j y hj => by
    have hl := (List.getElem?_eq_some_iff.mp hj).1
    have hz : j = 0 := by simp at hl; omega
    subst hz
    rw [upd_eq]
    simpa using hj
  refine ⟨fun k hk => if_pos hk, fun k hk => if_pos hk, fun k hk => ?_, fun k hk => if_pos hk, rfl, rfl, ⟨rfl, h1 i0⟩, ⟨rfl, h1 i1⟩⟩
  rcases (show k = 0 ∨ k = 1 ∨ k = 2 ∨ k = 3 ∨ k = 4 ∨ k = 5 ∨ k = 6 ∨ k = 7 ∨ k = 8 ∨ k = 9 ∨ k = 10 ∨ k = 11 ∨ k = 12 ∨ k = 13 ∨ k = 14 ∨ k = 15 by omega) with rfl | rfl | rfl | rfl | rfl | rfl | rfl | rfl | rfl | rfl | rfl | rfl | rfl | rfl | rfl | rfl <;> rfl
theorem p_one_i {b : Nat → Nat} {n : Nat} {s q : Ps} (h : p_stmt b n s = .inl q) (hk : kK q.2.2.2 = 59) : p_one b n s = .inl (q.1, q.2.1, q.2.2.1, t_nx b n q.2.2.2) := by
  unfold p_one p_semi
  rw [h]
  dsimp only
  rw [if_pos hk]
theorem p_one_s {b : Nat → Nat} {n : Nat} {s q : Ps} (h : p_stmt b n s = .inl q) (hk : kK q.2.2.2 ≠ 59) : p_one b n s = .inr (1, kS q.2.2.2) := by
  unfold p_one p_semi
  rw [h]
  dsimp only
  rw [if_neg hk]
theorem p_one_e {b : Nat → Nat} {n : Nat} {s : Ps} {z : Nat × Nat} (h : p_stmt b n s = .inr z) : p_one b n s = .inr z := by
  unfold p_one
  rw [h]
theorem p_run_0 {b : Nat → Nat} {n k : Nat} {s : Ps} (h : kK s.2.2.2 = 0) : p_run b n (k + 1) s = .inl s := by rw [p_run, if_pos h]
theorem p_run_i {b : Nat → Nat} {n k : Nat} {s q : Ps} (h : kK s.2.2.2 ≠ 0) (h1 : p_one b n s = .inl q) : p_run b n (k + 1) s = p_run b n k q := by rw [p_run, if_neg h, h1]
theorem p_run_e {b : Nat → Nat} {n k : Nat} {s : Ps} {z : Nat × Nat} (h : kK s.2.2.2 ≠ 0) (h1 : p_one b n s = .inr z) : p_run b n (k + 1) s = .inr z := by rw [p_run, if_neg h, h1]
set_option maxRecDepth 20000 in
set_option maxHeartbeats 1000000 in
theorem c_describe {l : Launch} {E : bz_E} {L : List Nat} {g : Nat → va_E} {o x x0 n n9 p af tk tp : Nat} {b : Nat → Nat} {f0 pd : Nat → Int32} {nm er ep hs ht pc op : Int32} {r0 : PLR} (hb : ∀ i, b i < 256) (hn : n ≤ 600) (hd : o + 3 ≤ x ∨ x + 1 ≤ o) (hW : bz_W L g [(o, (b_T E o x0 n9 af tk tp nm er ep hs ht f0 pd pc op)), (p, b_PL E p r0), (x, b_In E b)]) : bz_K l E mX0_describe 8 [.ref o, .ref p, .ref x, .int (nI n)] L g (fun r g1 => ∃ (t9 : Tok) (e9 : Nat × Nat) (nm9 ep9 hs9 hy9 : Int32) (pd9 : Nat → Int32) (pc9 op9 : Int32) (r9 : PLR), r = some (.int (nI e9.1)) ∧ bz_B L g g1 [(o, (b_T E o x n (kE t9) (kK t9) (kS t9) nm9 (nI e9.1) ep9 hs9 hy9 f0 pd9 pc9 op9)), (p, b_PL E p r9)] ∧ k_ok t9 e9 nm9 ep9 ∧ ((∃ (D1 : Pl) (k1 k2 : Bool) (t1 : Tok), p_all b n = .inl (D1, k1, k2, t1) ∧ e9.1 = 0 ∧ d_rep r9 D1 ∧ d_ok D1) ∨ (p_all b n = .inr e9 ∧ e9.1 ≠ 0))) := by
  refine bz_K.of (by decide) (bz_le rfl) (fun sz => ?_)
  show bz_G _ _ _ _ _ _ _ _ _ _ _ _ 0 [(0, .ref o), (1, .ref p), (2, .ref x), (3, .int (nI n))] []
  have hB := bz_B.rf hW
  have hXx : bz_H L g x (b_In E b) := hW.1 (x, b_In E b) (List.mem_cons_of_mem _ (List.mem_cons_of_mem _ List.mem_cons_self))
  have KX : ∀ (i : Nat) (t2 : Tok) (e2 : Nat × Nat) (nm2 ep2 hs2 hy2 : Int32) (pd2 : Nat → Int32) (pc2 op2 : Int32) (r2 : PLR) (g1 : Nat → va_E), i < 1000 → k_ok t2 e2 nm2 ep2 → e2.1 ≠ 0 → p_all b n = .inr e2 → bz_B L g g1 [(o, (b_T E o x n (kE t2) (kK t2) (kS t2) nm2 (nI e2.1) ep2 hs2 hy2 f0 pd2 pc2 op2)), (p, b_PL E p r2), (x, b_In E b)] → bz_G l E mX0_describe (bz_R 8 0 0) L sz (bz_Fm E L sz (fun r g1 => ∃ (t9 : Tok) (e9 : Nat × Nat) (nm9 ep9 hs9 hy9 : Int32) (pd9 : Nat → Int32) (pc9 op9 : Int32) (r9 : PLR), r = some (.int (nI e9.1)) ∧ bz_B L g g1 [(o, (b_T E o x n (kE t9) (kK t9) (kS t9) nm9 (nI e9.1) ep9 hs9 hy9 f0 pd9 pc9 op9)), (p, b_PL E p r9)] ∧ k_ok t9 e9 nm9 ep9 ∧ ((∃ (D1 : Pl) (k1 k2 : Bool) (t1 : Tok), p_all b n = .inl (D1, k1, k2, t1) ∧ e9.1 = 0 ∧ d_rep r9 D1 ∧ d_ok D1) ∨ (p_all b n = .inr e9 ∧ e9.1 ≠ 0)))) sz 0 0 L g1 46 [(4, .int (nI i)), (0, .ref o), (1, .ref p), (2, .ref x), (3, .int (nI n))] [] := by
    intro i t2 e2 nm2 ep2 hs2 hy2 pd2 pc2 op2 r2 g2 hi9 hk2 hne hz hB
    have h4 := hk2.2.2
    refine g_iload (q := 48) dX0_describe_46 rfl rfl ?_
    refine g_sipush (q := 51) (v := (nI 600)) dX0_describe_48 rfl (by decide) ?_
    refine g_icmpN_gt (q := 54) (t := 83) dX0_describe_51 rfl (by decide) (by omega) (by omega) (fun c_51 => ?_) (fun c_51 => ?_)
    · refine g_aload_n (q := 84) dX0_describe_83 rfl rfl ?_
      refine gb_getf (q := 87) (j := 0) (i := 0) dX0_describe_84 rfl fl_X0_26 hB rfl rfl rfl rfl ?_
      exact g_iret dX0_describe_87 rfl (⟨t2, e2, nm2, ep2, hs2, hy2, pd2, pc2, op2, r2, rfl, bz_B.last (bs := [_, _]) hB hXx, hk2, Or.inr ⟨hz, hne⟩⟩)
    · refine g_aload_n (q := 55) dX0_describe_54 rfl rfl ?_
      refine gb_getf (q := 58) (j := 0) (i := 0) dX0_describe_55 rfl fl_X0_26 hB rfl rfl rfl rfl ?_
      refine g_ifN_ne (q := 61) (t := 83) dX0_describe_58 rfl (by decide) (by omega) (fun _ => ?_) (fun c => absurd c (by omega))
      refine g_aload_n (q := 84) dX0_describe_83 rfl rfl ?_
      refine gb_getf (q := 87) (j := 0) (i := 0) dX0_describe_84 rfl fl_X0_26 hB rfl rfl rfl rfl ?_
      exact g_iret dX0_describe_87 rfl (⟨t2, e2, nm2, ep2, hs2, hy2, pd2, pc2, op2, r2, rfl, bz_B.last (bs := [_, _]) hB hXx, hk2, Or.inr ⟨hz, hne⟩⟩)
  have K : ∀ (k i : Nat) (D2 : Pl) (bs2 bt2 : Bool) (t2 : Tok) (e2 : Nat × Nat) (nm2 ep2 : Int32) (pd2 : Nat → Int32) (pc2 op2 : Int32) (r2 : PLR) (g1 : Nat → va_E), i + k = 601 → n - kS t2 < k → t_is b n t2 → e2.1 = 0 → k_ok t2 e2 nm2 ep2 → d_rep r2 D2 → d_ok D2 → p_run b n k (D2, bs2, bt2, t2) = p_all b n → bz_B L g g1 [(o, (b_T E o x n (kE t2) (kK t2) (kS t2) nm2 (nI e2.1) ep2 (tB bs2) (tB bt2) f0 pd2 pc2 op2)), (p, b_PL E p r2), (x, b_In E b)] → bz_G l E mX0_describe (bz_R 8 0 0) L sz (bz_Fm E L sz (fun r g1 => ∃ (t9 : Tok) (e9 : Nat × Nat) (nm9 ep9 hs9 hy9 : Int32) (pd9 : Nat → Int32) (pc9 op9 : Int32) (r9 : PLR), r = some (.int (nI e9.1)) ∧ bz_B L g g1 [(o, (b_T E o x n (kE t9) (kK t9) (kS t9) nm9 (nI e9.1) ep9 hs9 hy9 f0 pd9 pc9 op9)), (p, b_PL E p r9)] ∧ k_ok t9 e9 nm9 ep9 ∧ ((∃ (D1 : Pl) (k1 k2 : Bool) (t1 : Tok), p_all b n = .inl (D1, k1, k2, t1) ∧ e9.1 = 0 ∧ d_rep r9 D1 ∧ d_ok D1) ∨ (p_all b n = .inr e9 ∧ e9.1 ≠ 0)))) sz 0 0 L g1 46 [(4, .int (nI i)), (0, .ref o), (1, .ref p), (2, .ref x), (3, .int (nI n))] [] := by
    intro k
    induction k with
    | zero => intro i D2 bs2 bt2 t2 e2 nm2 ep2 pd2 pc2 op2 r2 g2 _ hz; omega
    | succ k ih =>
      intro i D2 bs2 bt2 t2 e2 nm2 ep2 pd2 pc2 op2 r2 g2 hik hlt0 ht2 he2 hk2 hdr2 hdo2 hR hB
      have h256 := ht2.k256 hb
      refine g_iload (q := 48) dX0_describe_46 rfl rfl ?_
      refine g_sipush (q := 51) (v := (nI 600)) dX0_describe_48 rfl (by decide) ?_
      refine g_icmpN_gt (q := 54) (t := 83) dX0_describe_51 rfl (by decide) (by omega) (by omega) (fun c => absurd c (by omega)) (fun _ => ?_)
      refine g_aload_n (q := 55) dX0_describe_54 rfl rfl ?_
      refine gb_getf (q := 58) (j := 0) (i := 0) dX0_describe_55 rfl fl_X0_26 hB rfl rfl rfl rfl ?_
      refine g_ifN_ne (q := 61) (t := 83) dX0_describe_58 rfl (by decide) (by omega) (fun c => absurd c (by omega)) (fun _ => ?_)
      refine g_aload_n (q := 62) dX0_describe_61 rfl rfl ?_
      refine gb_getf (q := 65) (j := 0) (i := 0) dX0_describe_62 rfl fl_X0_47 hB rfl rfl rfl rfl ?_
      refine g_ifN_eq (q := 68) (t := 83) dX0_describe_65 rfl (by decide) (by omega) (fun c_65 => ?_) (fun c_65 => ?_)
      · refine g_aload_n (q := 84) dX0_describe_83 rfl rfl ?_
        refine gb_getf (q := 87) (j := 0) (i := 0) dX0_describe_84 rfl fl_X0_26 hB rfl rfl rfl rfl ?_
        exact g_iret dX0_describe_87 rfl (⟨t2, e2, nm2, ep2, _, _, pd2, pc2, op2, r2, rfl, bz_B.last (bs := [_, _]) hB hXx, hk2, Or.inl ⟨D2, bs2, bt2, t2, by rw [p_run_0 c_65] at hR; exact hR.symm, he2, hdr2, hdo2⟩⟩)
      · refine g_aload_n (q := 69) dX0_describe_68 rfl rfl ?_
        refine g_aload_n (q := 70) dX0_describe_69 rfl rfl ?_
        refine gb_callV (q := 73) (j := 0) (i := 0) dX0_describe_70 rfl kv_X0_50 (c_statement (D := D2) (bs := bs2) (bt := bt2) hb hn hd ht2 he2 hk2 hdr2 hB.1) rfl (by decide) hB rfl rfl rfl rfl (bz_le rfl) (by decide) (by decide) (fun r g1 hQ => ?_)
        obtain ⟨rfl, k1, k2, t3, e3, nm3, ep3, pd3, pc3, op3, r3, h1, hk3, ht3, hst⟩ := hQ
        have hB := bz_B.two3 hB h1 ⟨rfl, rfl⟩
        refine g_aload_n (q := 74) dX0_describe_73 rfl rfl ?_
        refine gb_callV (q := 77) (j := 0) (i := 0) dX0_describe_74 rfl kv_X0_54 (c_expectSemicolon (t := t3) (e := e3) hb hn hd (hB.1.at (j := 2) rfl) ht3 hk3 (hB.1.at (j := 0) rfl)) rfl (by decide) hB rfl rfl rfl rfl (bz_le rfl) (by decide) (by decide) (fun r g1 hQ => ?_)
        obtain ⟨rfl, t4, e4, nm4, ep4, h1, hk4, hs4⟩ := hQ
        have hB := hB.sp (j := 0) rfl 0 rfl h1 (bz_le rfl)
        refine g_iincN (q := 80) (c := 1) dX0_describe_77 rfl (by decide) rfl rfl (by decide) ?_
        refine g_goto (q := 46) dX0_describe_80 (by decide) ?_
        refine g_lvs (lv1 := [(4, .int (nI (i + 1))), (0, .ref o), (1, .ref p), (2, .ref x), (3, .int (nI n))]) ⟨rfl, rfl, rfl, rfl, rfl, trivial⟩ ?_
        have hBf := hB
        rcases hst with ⟨D3, q1, q2, q3⟩ | ⟨q1, q2⟩
        · have hpl := p_stmt_l hn hdo2 ht2 q1
          by_cases h59 : kK t3 = 59
          · rw [if_pos h59] at hs4
            have ht4 : t4 = t_nx b n t3 := congrArg (fun z => z.1) hs4
            have he4 : e4 = e3 := congrArg (fun z => z.2) hs4
            subst ht4
            rw [he4, q2] at hBf hk4
            rw [p_run_i c_65 (p_one_i q1 h59)] at hR
            have hgo := t_nx_is ht3
            have hle3 := ht3.le
            have hlt : n - kS t3 < n - kS t2 := hpl.2.2
            exact ih (i + 1) D3 k1 k2 (t_nx b n t3) e2 nm4 ep4 pd3 pc3 op3 r3 _ (by omega) (by omega) hgo.1 he2 hk4 q3 hpl.1 hR hBf
          · rw [if_neg h59] at hs4
            have ht4 : t4 = t3 := congrArg (fun z => z.1) hs4
            have he4 : e4 = (1, kS t3) := (congrArg (fun z => z.2) hs4).trans (k_fail_0 (by rw [q2]; exact he2))
            subst ht4
            rw [p_run_e c_65 (p_one_s q1 h59)] at hR
            exact KX (i + 1) t4 e4 nm4 ep4 (tB k1) (tB k2) pd3 pc3 op3 r3 _ (by omega) hk4 (by rw [he4]; exact Nat.succ_ne_zero _) (by rw [he4]; exact hR.symm) hBf
        · have he4 : e4 = e3 := by
            by_cases h59 : kK t3 = 59
            · rw [if_pos h59] at hs4; exact congrArg (fun z => z.2) hs4
            · rw [if_neg h59] at hs4; exact (congrArg (fun z => z.2) hs4).trans (k_fail_1 q2)
          rw [p_run_e c_65 (p_one_e q1)] at hR
          exact KX (i + 1) t4 e4 nm4 ep4 (tB k1) (tB k2) pd3 pc3 op3 r3 _ (by omega) hk4 (by rw [he4]; exact q2) (by rw [he4]; exact hR.symm) hBf
  refine g_aload_n (q := 1) dX0_describe_0 rfl rfl ?_
  refine g_aload_n (q := 2) dX0_describe_1 rfl rfl ?_
  refine gb_putf (q := 5) (j := 0) (i := 0) dX0_describe_2 rfl fp_X0_9 hB rfl rfl rfl (bz_le rfl) rfl rfl (fun g hB => ?_)
  refine g_aload_n (q := 6) dX0_describe_5 rfl rfl ?_
  refine g_iload_n (q := 7) dX0_describe_6 rfl rfl ?_
  refine gb_putf (q := 10) (j := 0) (i := 0) dX0_describe_7 rfl fp_X0_19 hB rfl rfl rfl (bz_le rfl) rfl rfl (fun g hB => ?_)
  refine g_aload_n (q := 11) dX0_describe_10 rfl rfl ?_
  refine g_iconst (q := 12) (v := (nI 0)) dX0_describe_11 rfl (by decide) ?_
  refine gb_putf (q := 15) (j := 0) (i := 0) dX0_describe_12 rfl fp_X0_23 hB rfl rfl rfl (bz_le rfl) rfl rfl (fun g hB => ?_)
  refine g_aload_n (q := 16) dX0_describe_15 rfl rfl ?_
  refine g_iconst (q := 17) (v := (nI 0)) dX0_describe_16 rfl (by decide) ?_
  refine gb_putf (q := 20) (j := 0) (i := 0) dX0_describe_17 rfl fp_X0_26 hB rfl rfl rfl (bz_le rfl) rfl rfl (fun g hB => ?_)
  refine g_aload_n (q := 21) dX0_describe_20 rfl rfl ?_
  refine g_iconst (q := 22) (v := (-1)) dX0_describe_21 rfl (by decide) ?_
  refine gb_putf (q := 25) (j := 0) (i := 0) dX0_describe_22 rfl fp_X0_29 hB rfl rfl rfl (bz_le rfl) rfl rfl (fun g hB => ?_)
  refine g_aload_n (q := 26) dX0_describe_25 rfl rfl ?_
  refine g_iconst (q := 27) (v := (nI 0)) dX0_describe_26 rfl (by decide) ?_
  refine gb_putf (q := 30) (j := 0) (i := 0) dX0_describe_27 rfl fp_X0_32 hB rfl rfl rfl (bz_le rfl) rfl rfl (fun g hB => ?_)
  refine g_aload_n (q := 31) dX0_describe_30 rfl rfl ?_
  refine g_iconst (q := 32) (v := (nI 0)) dX0_describe_31 rfl (by decide) ?_
  refine gb_putf (q := 35) (j := 0) (i := 0) dX0_describe_32 rfl fp_X0_36 hB rfl rfl rfl (bz_le rfl) rfl rfl (fun g hB => ?_)
  refine g_aload_n (q := 36) dX0_describe_35 rfl rfl ?_
  refine gb_callV (q := 39) (j := 1) (i := 0) dX0_describe_36 rfl kv_X0_39 (c_setDefaults (hB.1.at (j := 1) rfl)) rfl (by decide) hB rfl rfl rfl rfl (bz_le rfl) (by decide) (by decide) (fun r g1 hQ => ?_)
  obtain ⟨rfl, h1⟩ := hQ
  have hB := hB.sp (j := 1) rfl 0 rfl h1 (bz_le rfl)
  refine g_aload_n (q := 40) dX0_describe_39 rfl rfl ?_
  refine gb_callV (q := 43) (j := 0) (i := 0) dX0_describe_40 rfl kv_X0_44 (c_step (x := x) (n := n) (p := 0) hb hn hd (hB.1.at (j := 2) rfl) (by omega) (hB.1.at (j := 0) rfl)) rfl (by decide) hB rfl rfl rfl rfl (bz_le rfl) (by decide) (by decide) (fun r g1 hQ => ?_)
  obtain ⟨rfl, t1, nm1, h1, rfl, hk1⟩ := hQ
  have hB := hB.sp (j := 0) rfl 0 rfl h1 (bz_le rfl)
  refine g_iconst (q := 44) (v := (nI 0)) dX0_describe_43 rfl (by decide) ?_
  refine g_istore (q := 46) dX0_describe_44 rfl (by decide) rfl ?_
  refine g_lvs (lv1 := [(4, .int (nI 0)), (0, .ref o), (1, .ref p), (2, .ref x), (3, .int (nI n))]) ⟨rfl, rfl, rfl, rfl, rfl, trivial⟩ ?_
  exact K 601 0 d_0 false false (t_tok b n 0) (0, 0) nm1 _ pd pc op _ _ (by omega) (by omega) (t_tok_is (Nat.zero_le n)).1 rfl ⟨hk1, fun h => absurd rfl h, Nat.zero_le _⟩ d_def_rep d_0_ok rfl hB
