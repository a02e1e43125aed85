/-! the class: read, configure, release -/
abbrev w_beg (r : PR) (t : Nat) (y : Int32) : PR := (r.1, r.2.1, r.2.2.1, r.2.2.2.1, r.2.2.2.2.1, r.2.2.2.2.2.1, upd r.2.2.2.2.2.2.1 t (nI 1), upd r.2.2.2.2.2.2.2.1 t y, upd r.2.2.2.2.2.2.2.2.1 t (nI 0), r.2.2.2.2.2.2.2.2.2)
abbrev w_fre (r : PR) (t : Nat) : PR := (r.1, r.2.1, r.2.2.1, r.2.2.2.1, r.2.2.2.2.1, r.2.2.2.2.2.1, upd r.2.2.2.2.2.2.1 t (nI 0), upd r.2.2.2.2.2.2.2.1 t (nI 0), upd r.2.2.2.2.2.2.2.2.1 t (nI 0), r.2.2.2.2.2.2.2.2.2)
theorem w_beg_rep {r : PR} {P : Po} {t w : Nat} (h : s_rep r P) (hw : w ≤ 4) : s_rep (w_beg r t (nI w)) (P.1, P.2.1, s_bgn P.2.2.1 t w, P.2.2.2) := ⟨h.1, h.2.1, h.2.2.1, h.2.2.2.1, h.2.2.2.2.1, h.2.2.2.2.2.1, w_tgb h.2.2.2.2.2.2.1 hw, h.2.2.2.2.2.2.2⟩
theorem w_fre_rep {r : PR} {P : Po} {t : Nat} (h : s_rep r P) : s_rep (w_fre r t) (P.1, P.2.1, s_rls P.2.2.1 t, P.2.2.2) := ⟨h.1, h.2.1, h.2.2.1, h.2.2.2.1, h.2.2.2.2.1, h.2.2.2.2.2.1, w_tgr h.2.2.2.2.2.2.1, h.2.2.2.2.2.2.2⟩
theorem w_okr {t ad wd now : Nat} {rx : Bool} (ht : t < 8) (hw : wd ≤ 4) (ha : ad + wd ≤ 16) (hn : now < 100000) : s_ok (s_ent 1 t rx ad wd now []) :=
  ⟨show 1 < 4 by omega, ht, ha, hw, hn, bz_le rfl, bz_le rfl, fun h => absurd (show (1 : Nat) = 0 ∨ (1 : Nat) = 2 from h) (by omega), fun h => absurd (show (1 : Nat) = 3 from h) (by omega), fun _ => Nat.zero_le _⟩

set_option maxRecDepth 20000 in
set_option maxHeartbeats 1000000 in
theorem c8_read0 {l : Launch} {E : bz_E} {L : List Nat} {g : Nat → va_E} {o : Nat} {A : WA} {s ad wd t : Nat} {rx : Bool} (hs : s < 2) (hd : d_ok A.D) (hnow : A.s.1 < 100000) (hw : 1 ≤ wd ∧ wd ≤ 4) (ha : ad + wd ≤ 16) (hlt : s_cnt 1 (s_sd s A.s).1 < A.D.1 (s * 4 + 1)) (h2 : ∀ t, t < 8 → (s_sd s A.s).2.2.1.1 t ≤ 2) (hf : s_fl (s_sd s A.s).2.2.1.1 A.D.2.2.2.2.2.1 0 = some t) (hX : w_X E L g o A) : bz_K l E mX8_read 5 [.ref o, .int (nI s), .int (nI ad), .int (nI wd), .int (tB rx)] L g (fun r g1 => r = some (.int (nI t)) ∧ ∃ τ : Si, s_like A.s τ ∧ w_P E L g o ((A.u_hs (s_kp A.hs τ)).u_s (s_pt s A.s ((s_sd s A.s).1 ++ [s_ent 1 t rx ad wd A.s.1 []], (s_sd s A.s).2.1, s_bgn (s_sd s A.s).2.2.1 t wd, (s_sd s A.s).2.2.2))) g1) := by
  refine bz_K.of (by decide) (bz_le rfl) (fun sz => ?_)
  obtain ⟨R, hW, hk⟩ := hX
  have hB := bz_B.rf hW
  obtain ⟨hn6, hb6, hpq, hT, hD, hS, hnw, hlen, hrg, hs0, hs1⟩ := id hk
  show bz_G _ _ _ _ _ _ _ _ _ _ _ _ 0 [(0, .ref o), (1, .int (nI s)), (2, .int (nI ad)), (3, .int (nI wd)), (4, .int (tB rx))] []
  rcases (show s = 0 ∨ s = 1 by omega) with rfl | rfl
  · have hlt : s_cnt 1 A.s.2.1.1 < A.D.1 (0 * 4 + 1) := hlt
    have hD8 := (hd.1 (0 * 4 + 1) (by decide)).2.1
    have hl32 : A.s.2.1.1.length < 32 := w_l32 hS.2.1.2.2.1 (k := 1) (by decide) (by omega)
    have ht8 : t < 8 := by have h3 := (s_fl_lt _ _ _ hf).2; have h4 := hd.2.2.2.1.2; omega
    refine g_iload_n (q := 1) dX8_read_0 rfl rfl ?_
    refine g_callS (q := 4) dX8_read_1 rfl ks_X8_116 rfl (c8_checkSide0 hs) (by decide) rfl (bz_le rfl) (by decide) (by decide) (fun r g1 hQ => ?_)
    obtain ⟨rfl, hg⟩ := hQ
    have hg := hg.symm
    subst hg
    refine g_iload_n (q := 5) dX8_read_4 rfl rfl ?_
    refine g_iload_n (q := 6) dX8_read_5 rfl rfl ?_
    refine g_callS (q := 9) dX8_read_6 rfl ks_X8_236 rfl (c8_range0 (by omega) hw ha) (by decide) rfl (bz_le rfl) (by decide) (by decide) (fun r g1 hQ => ?_)
    obtain ⟨rfl, hg⟩ := hQ
    have hg := hg.symm
    subst hg
    refine g_aload_n (q := 10) dX8_read_9 rfl rfl ?_
    refine g_iload_n (q := 11) dX8_read_10 rfl rfl ?_
    refine g_iconst (q := 12) (v := (nI 1)) dX8_read_11 rfl (by decide) ?_
    refine gb_callV (q := 15) (j := 0) (i := 0) dX8_read_12 rfl kv_X8_239 (c8_room0 (k := 1) hs (by decide) (fun k hk => (hd.1 k hk).2.1) hlt hS hD (w_pick3 hB.1 0 3 5 rfl rfl rfl (by decide) (by decide) (by decide))) rfl (by decide) hB rfl rfl rfl rfl (bz_le rfl) (by decide) (by decide) (fun r g1 hQ => ?_)
    obtain ⟨rfl, hg⟩ := hQ
    have hg := hg.symm
    subst hg
    refine g_aload_n (q := 16) dX8_read_15 rfl rfl ?_
    refine g_iload_n (q := 17) dX8_read_16 rfl rfl ?_
    refine gb_callV (q := 20) (j := 0) (i := 0) dX8_read_17 rfl kv_X8_249 (c8_free0 (t := t) hs hd.2.2.2.1.2 h2 hf hS hD (w_pick3 hB.1 0 3 5 rfl rfl rfl (by decide) (by decide) (by decide))) rfl (by decide) hB rfl rfl rfl rfl (bz_le rfl) (by decide) (by decide) (fun r g1 hQ => ?_)
    obtain ⟨rfl, hg⟩ := hQ
    have hg := hg.symm
    subst hg
    refine g_istore (q := 22) dX8_read_20 rfl (by decide) rfl ?_
    refine g_aload_n (q := 23) dX8_read_22 rfl rfl ?_
    refine gb_getf (q := 26) (j := 0) (i := 0) dX8_read_23 rfl fl_X8_43 hB rfl rfl rfl rfl ?_
    refine g_aload_n (q := 27) dX8_read_26 rfl rfl ?_
    refine gb_getf (q := 30) (j := 0) (i := 0) dX8_read_27 rfl fl_X8_33 hB rfl rfl rfl rfl ?_
    refine gb_callV (q := 33) (j := 7) (i := 0) dX8_read_30 rfl kv_X8_230 (c_remember (o := o + 81) (y := o + 27) (n := R.nw) (ct := A.hs.length) (r0 := R.rB (s_nx R.nw)) (r2 := R.rS) (σ := A.s) hnw hlen (h_f_at (s_nx_lt _)) hS (w_pick3 hB.1 7 (8 + s_nx R.nw) 5 rfl (w_bs_at (s_nx_lt _)) rfl (by omega) (by decide) (by omega))) rfl (by decide) hB rfl rfl rfl rfl (bz_le rfl) (by decide) (by decide) (fun r g1 hQ => ?_)
    obtain ⟨rfl, h1⟩ := hQ
    obtain ⟨τ, nw1, rB1, hlk, hB, hk1⟩ := w_rem hW hk h1
    obtain ⟨hn6, hb6, hpq, hT, hD, hS, hnw, hlen, hrg, hs0, hs1⟩ := hk1
    refine g_aload_n (q := 34) dX8_read_33 rfl rfl ?_
    refine gb_getf (q := 37) (j := 0) (i := 0) dX8_read_34 rfl fl_X8_33 hB rfl rfl rfl rfl ?_
    refine g_iload_n (q := 38) dX8_read_37 rfl rfl ?_
    refine gb_callV (q := 41) (j := 5) (i := 0) dX8_read_38 rfl kv_X8_119 (c_portOf0 (hB.1.at (j := 5) rfl)) rfl (by decide) hB rfl rfl rfl rfl (bz_le rfl) (by decide) (by decide) (fun r g1 hQ => ?_)
    obtain ⟨rfl, hg⟩ := hQ
    have hg := hg.symm
    subst hg
    refine g_astore (q := 43) dX8_read_41 rfl (by decide) rfl ?_
    refine g_aload (q := 45) dX8_read_43 rfl rfl ?_
    refine gb_getf (q := 48) (j := 5) (i := 1) dX8_read_45 rfl fl_X8_167 hB rfl rfl rfl rfl ?_
    refine g_iload (q := 50) dX8_read_48 rfl rfl ?_
    refine g_iload_n (q := 51) dX8_read_50 rfl rfl ?_
    refine gb_callV (q := 54) (j := 5) (i := 8) dX8_read_51 rfl kv_X8_252 (c_begin (t := t) ht8 ((hB.1.at (j := 5) rfl).sub 8 rfl)) rfl (by decide) hB rfl rfl rfl rfl (bz_le rfl) (by decide) (by decide) (fun r g1 hQ => ?_)
    obtain ⟨rfl, h1⟩ := hQ
    have hB : bz_B _ _ _ (w_bs E o (A.u_hs (s_kp A.hs τ)) (((R.u_nw nw1).u_rB rB1).u_rS (R.rS.1, R.rS.2.1, (w_beg R.rS.2.2.1 t (nI wd)), R.rS.2.2.2))) := hB.sp (j := 5) rfl 8 rfl h1 (bz_le rfl)
    refine g_aload (q := 56) dX8_read_54 rfl rfl ?_
    refine gb_getf (q := 59) (j := 5) (i := 1) dX8_read_56 rfl fl_X8_123 hB rfl rfl rfl rfl ?_
    refine g_iconst (q := 60) (v := (nI 1)) dX8_read_59 rfl (by decide) ?_
    refine g_iload (q := 62) dX8_read_60 rfl rfl ?_
    refine g_iload (q := 64) dX8_read_62 rfl rfl ?_
    refine g_iload_n (q := 65) dX8_read_64 rfl rfl ?_
    refine g_iload_n (q := 66) dX8_read_65 rfl rfl ?_
    refine g_aload_n (q := 67) dX8_read_66 rfl rfl ?_
    refine gb_getf (q := 70) (j := 0) (i := 0) dX8_read_67 rfl fl_X8_33 hB rfl rfl rfl rfl ?_
    refine gb_getf (q := 73) (j := 5) (i := 0) dX8_read_70 rfl fl_X8_98 hB rfl rfl rfl rfl ?_
    refine g_eqi (v := nI (A.s.1)) (hS.1) ?_
    refine gb_callV (q := 76) (j := 5) (i := 2) dX8_read_73 rfl kv_X8_242 (c_open (n := A.s.2.1.1.length) (k := 1) (f := R.rS.2.2.1.1) (c := R.rS.2.2.1.2.1) hl32 (by decide) (w_rb rx) (show bz_H _ _ (o + 27 + 2) (b_Line E (o + 27 + 2) R.rS.2.2.1.1 R.rS.2.2.1.2.1 (nI A.s.2.1.1.length)) from by rw [← hS.2.1.2.1]; exact (hB.1.at (j := 5) rfl).sub 2 rfl)) rfl (by decide) hB rfl rfl rfl rfl (bz_le rfl) (by decide) (by decide) (fun r g1 hQ => ?_)
    obtain ⟨rfl, h1⟩ := hQ
    have hB : bz_B _ _ _ (w_bs E o (A.u_hs (s_kp A.hs τ)) (((R.u_nw nw1).u_rB rB1).u_rS (R.rS.1, R.rS.2.1, ((v_open R.rS.2.2.1.1 A.s.2.1.1.length 1 (nI t) (tB rx) (nI ad) (nI wd) (nI A.s.1)), (upd R.rS.2.2.1.2.1 1 (R.rS.2.2.1.2.1 1 + nI 1)), nI (A.s.2.1.1.length + 1), (w_beg R.rS.2.2.1 t (nI wd)).2.2.2), R.rS.2.2.2))) := hB.sp (j := 5) rfl 2 rfl h1 (bz_le rfl)
    refine g_pop (q := 77) dX8_read_76 rfl rfl ?_
    refine g_iload (q := 79) dX8_read_77 rfl rfl ?_
    exact g_iret dX8_read_79 rfl (⟨rfl, τ, hlk, w_to (A := (A.u_hs (s_kp A.hs τ)).u_s (s_pt 0 A.s (A.s.2.1.1 ++ [s_ent 1 t rx ad wd A.s.1 []], A.s.2.1.2.1, s_bgn A.s.2.1.2.2.1 t wd, A.s.2.1.2.2.2))) (R := (((R.u_nw nw1).u_rB rB1).u_rS (R.rS.1, R.rS.2.1, ((v_open R.rS.2.2.1.1 A.s.2.1.1.length 1 (nI t) (tB rx) (nI ad) (nI wd) (nI A.s.1)), (upd R.rS.2.2.1.2.1 1 (R.rS.2.2.1.2.1 1 + nI 1)), nI (A.s.2.1.1.length + 1), (w_beg R.rS.2.2.1 t (nI wd)).2.2.2), R.rS.2.2.2))) hB ⟨hn6, hb6, hpq, hT, hD, ⟨hS.1, w_que (w_beg_rep (t := t) hS.2.1 hw.2) w_txr (w_okr ht8 hw.2 ha hnow) (show s_cnt 1 A.s.2.1.1 < 8 by omega) (fun j hj => w_op_lo hj) w_upc, hS.2.2⟩, hnw, hlen, hrg, hs0, hs1⟩⟩)
  · have hlt : s_cnt 1 A.s.2.2.1 < A.D.1 (1 * 4 + 1) := hlt
    have hD8 := (hd.1 (1 * 4 + 1) (by decide)).2.1
    have hl32 : A.s.2.2.1.length < 32 := w_l32 hS.2.2.2.2.1 (k := 1) (by decide) (by omega)
    have ht8 : t < 8 := by have h3 := (s_fl_lt _ _ _ hf).2; have h4 := hd.2.2.2.1.2; omega
    refine g_iload_n (q := 1) dX8_read_0 rfl rfl ?_
    refine g_callS (q := 4) dX8_read_1 rfl ks_X8_116 rfl (c8_checkSide0 hs) (by decide) rfl (bz_le rfl) (by decide) (by decide) (fun r g1 hQ => ?_)
    obtain ⟨rfl, hg⟩ := hQ
    have hg := hg.symm
    subst hg
    refine g_iload_n (q := 5) dX8_read_4 rfl rfl ?_
    refine g_iload_n (q := 6) dX8_read_5 rfl rfl ?_
    refine g_callS (q := 9) dX8_read_6 rfl ks_X8_236 rfl (c8_range0 (by omega) hw ha) (by decide) rfl (bz_le rfl) (by decide) (by decide) (fun r g1 hQ => ?_)
    obtain ⟨rfl, hg⟩ := hQ
    have hg := hg.symm
    subst hg
    refine g_aload_n (q := 10) dX8_read_9 rfl rfl ?_
    refine g_iload_n (q := 11) dX8_read_10 rfl rfl ?_
    refine g_iconst (q := 12) (v := (nI 1)) dX8_read_11 rfl (by decide) ?_
    refine gb_callV (q := 15) (j := 0) (i := 0) dX8_read_12 rfl kv_X8_239 (c8_room0 (k := 1) hs (by decide) (fun k hk => (hd.1 k hk).2.1) hlt hS hD (w_pick3 hB.1 0 3 5 rfl rfl rfl (by decide) (by decide) (by decide))) rfl (by decide) hB rfl rfl rfl rfl (bz_le rfl) (by decide) (by decide) (fun r g1 hQ => ?_)
    obtain ⟨rfl, hg⟩ := hQ
    have hg := hg.symm
    subst hg
    refine g_aload_n (q := 16) dX8_read_15 rfl rfl ?_
    refine g_iload_n (q := 17) dX8_read_16 rfl rfl ?_
    refine gb_callV (q := 20) (j := 0) (i := 0) dX8_read_17 rfl kv_X8_249 (c8_free0 (t := t) hs hd.2.2.2.1.2 h2 hf hS hD (w_pick3 hB.1 0 3 5 rfl rfl rfl (by decide) (by decide) (by decide))) rfl (by decide) hB rfl rfl rfl rfl (bz_le rfl) (by decide) (by decide) (fun r g1 hQ => ?_)
    obtain ⟨rfl, hg⟩ := hQ
    have hg := hg.symm
    subst hg
    refine g_istore (q := 22) dX8_read_20 rfl (by decide) rfl ?_
    refine g_aload_n (q := 23) dX8_read_22 rfl rfl ?_
    refine gb_getf (q := 26) (j := 0) (i := 0) dX8_read_23 rfl fl_X8_43 hB rfl rfl rfl rfl ?_
    refine g_aload_n (q := 27) dX8_read_26 rfl rfl ?_
    refine gb_getf (q := 30) (j := 0) (i := 0) dX8_read_27 rfl fl_X8_33 hB rfl rfl rfl rfl ?_
    refine gb_callV (q := 33) (j := 7) (i := 0) dX8_read_30 rfl kv_X8_230 (c_remember (o := o + 81) (y := o + 27) (n := R.nw) (ct := A.hs.length) (r0 := R.rB (s_nx R.nw)) (r2 := R.rS) (σ := A.s) hnw hlen (h_f_at (s_nx_lt _)) hS (w_pick3 hB.1 7 (8 + s_nx R.nw) 5 rfl (w_bs_at (s_nx_lt _)) rfl (by omega) (by decide) (by omega))) rfl (by decide) hB rfl rfl rfl rfl (bz_le rfl) (by decide) (by decide) (fun r g1 hQ => ?_)
    obtain ⟨rfl, h1⟩ := hQ
    obtain ⟨τ, nw1, rB1, hlk, hB, hk1⟩ := w_rem hW hk h1
    obtain ⟨hn6, hb6, hpq, hT, hD, hS, hnw, hlen, hrg, hs0, hs1⟩ := hk1
    refine g_aload_n (q := 34) dX8_read_33 rfl rfl ?_
    refine gb_getf (q := 37) (j := 0) (i := 0) dX8_read_34 rfl fl_X8_33 hB rfl rfl rfl rfl ?_
    refine g_iload_n (q := 38) dX8_read_37 rfl rfl ?_
    refine gb_callV (q := 41) (j := 5) (i := 0) dX8_read_38 rfl kv_X8_119 (c_portOf1 (hB.1.at (j := 5) rfl)) rfl (by decide) hB rfl rfl rfl rfl (bz_le rfl) (by decide) (by decide) (fun r g1 hQ => ?_)
    obtain ⟨rfl, hg⟩ := hQ
    have hg := hg.symm
    subst hg
    refine g_astore (q := 43) dX8_read_41 rfl (by decide) rfl ?_
    refine g_aload (q := 45) dX8_read_43 rfl rfl ?_
    refine gb_getf (q := 48) (j := 5) (i := 14) dX8_read_45 rfl fl_X8_167 hB rfl rfl rfl rfl ?_
    refine g_iload (q := 50) dX8_read_48 rfl rfl ?_
    refine g_iload_n (q := 51) dX8_read_50 rfl rfl ?_
    refine gb_callV (q := 54) (j := 5) (i := 21) dX8_read_51 rfl kv_X8_252 (c_begin (t := t) ht8 ((hB.1.at (j := 5) rfl).sub 21 rfl)) rfl (by decide) hB rfl rfl rfl rfl (bz_le rfl) (by decide) (by decide) (fun r g1 hQ => ?_)
    obtain ⟨rfl, h1⟩ := hQ
    have hB : bz_B _ _ _ (w_bs E o (A.u_hs (s_kp A.hs τ)) (((R.u_nw nw1).u_rB rB1).u_rS (R.rS.1, R.rS.2.1, R.rS.2.2.1, (w_beg R.rS.2.2.2 t (nI wd))))) := hB.sp (j := 5) rfl 21 rfl h1 (bz_le rfl)
    refine g_aload (q := 56) dX8_read_54 rfl rfl ?_
    refine gb_getf (q := 59) (j := 5) (i := 14) dX8_read_56 rfl fl_X8_123 hB rfl rfl rfl rfl ?_
    refine g_iconst (q := 60) (v := (nI 1)) dX8_read_59 rfl (by decide) ?_
    refine g_iload (q := 62) dX8_read_60 rfl rfl ?_
    refine g_iload (q := 64) dX8_read_62 rfl rfl ?_
    refine g_iload_n (q := 65) dX8_read_64 rfl rfl ?_
    refine g_iload_n (q := 66) dX8_read_65 rfl rfl ?_
    refine g_aload_n (q := 67) dX8_read_66 rfl rfl ?_
    refine gb_getf (q := 70) (j := 0) (i := 0) dX8_read_67 rfl fl_X8_33 hB rfl rfl rfl rfl ?_
    refine gb_getf (q := 73) (j := 5) (i := 0) dX8_read_70 rfl fl_X8_98 hB rfl rfl rfl rfl ?_
    refine g_eqi (v := nI (A.s.1)) (hS.1) ?_
    refine gb_callV (q := 76) (j := 5) (i := 15) dX8_read_73 rfl kv_X8_242 (c_open (n := A.s.2.2.1.length) (k := 1) (f := R.rS.2.2.2.1) (c := R.rS.2.2.2.2.1) hl32 (by decide) (w_rb rx) (show bz_H _ _ (o + 27 + 15) (b_Line E (o + 27 + 15) R.rS.2.2.2.1 R.rS.2.2.2.2.1 (nI A.s.2.2.1.length)) from by rw [← hS.2.2.2.1]; exact (hB.1.at (j := 5) rfl).sub 15 rfl)) rfl (by decide) hB rfl rfl rfl rfl (bz_le rfl) (by decide) (by decide) (fun r g1 hQ => ?_)
    obtain ⟨rfl, h1⟩ := hQ
    have hB : bz_B _ _ _ (w_bs E o (A.u_hs (s_kp A.hs τ)) (((R.u_nw nw1).u_rB rB1).u_rS (R.rS.1, R.rS.2.1, R.rS.2.2.1, ((v_open R.rS.2.2.2.1 A.s.2.2.1.length 1 (nI t) (tB rx) (nI ad) (nI wd) (nI A.s.1)), (upd R.rS.2.2.2.2.1 1 (R.rS.2.2.2.2.1 1 + nI 1)), nI (A.s.2.2.1.length + 1), (w_beg R.rS.2.2.2 t (nI wd)).2.2.2)))) := hB.sp (j := 5) rfl 15 rfl h1 (bz_le rfl)
    refine g_pop (q := 77) dX8_read_76 rfl rfl ?_
    refine g_iload (q := 79) dX8_read_77 rfl rfl ?_
    exact g_iret dX8_read_79 rfl (⟨rfl, τ, hlk, w_to (A := (A.u_hs (s_kp A.hs τ)).u_s (s_pt 1 A.s (A.s.2.2.1 ++ [s_ent 1 t rx ad wd A.s.1 []], A.s.2.2.2.1, s_bgn A.s.2.2.2.2.1 t wd, A.s.2.2.2.2.2))) (R := (((R.u_nw nw1).u_rB rB1).u_rS (R.rS.1, R.rS.2.1, R.rS.2.2.1, ((v_open R.rS.2.2.2.1 A.s.2.2.1.length 1 (nI t) (tB rx) (nI ad) (nI wd) (nI A.s.1)), (upd R.rS.2.2.2.2.1 1 (R.rS.2.2.2.2.1 1 + nI 1)), nI (A.s.2.2.1.length + 1), (w_beg R.rS.2.2.2 t (nI wd)).2.2.2)))) hB ⟨hn6, hb6, hpq, hT, hD, ⟨hS.1, hS.2.1, w_que (w_beg_rep (t := t) hS.2.2 hw.2) w_txr (w_okr ht8 hw.2 ha hnow) (show s_cnt 1 A.s.2.2.1 < 8 by omega) (fun j hj => w_op_lo hj) w_upc⟩, hnw, hlen, hrg, hs0, hs1⟩⟩)
set_option maxRecDepth 20000 in
set_option maxHeartbeats 1000000 in
theorem c8_configure0 {l : Launch} {E : bz_E} {L : List Nat} {g : Nat → va_E} {o : Nat} {A : WA} {s ad t : Nat} {v : Int32} {rx : Bool} (hs : s < 2) (hd : d_ok A.D) (hnow : A.s.1 < 100000) (ha : ad < 16) (hlt : s_cnt 2 (s_sd s A.s).1 < A.D.1 (s * 4 + 2)) (h2 : ∀ t, t < 8 → (s_sd s A.s).2.2.1.1 t ≤ 2) (hf : s_fl (s_sd s A.s).2.2.1.1 A.D.2.2.2.2.2.1 0 = some t) (hX : w_X E L g o A) : bz_K l E mX8_configure 5 [.ref o, .int (nI s), .int (nI ad), .int v, .int (tB rx)] L g (fun r g1 => r = some (.int (nI t)) ∧ ∃ τ : Si, s_like A.s τ ∧ w_P E L g o ((A.u_hs (s_kp A.hs τ)).u_s (s_pt s A.s ((s_sd s A.s).1 ++ [s_ent 2 t rx ad 1 A.s.1 (s_vals v 1)], (s_sd s A.s).2.1, s_bgn (s_sd s A.s).2.2.1 t 0, (s_sd s A.s).2.2.2))) g1) := by
  refine bz_K.of (by decide) (bz_le rfl) (fun sz => ?_)
  obtain ⟨R, hW, hk⟩ := hX
  have hB := bz_B.rf hW
  obtain ⟨hn6, hb6, hpq, hT, hD, hS, hnw, hlen, hrg, hs0, hs1⟩ := id hk
  show bz_G _ _ _ _ _ _ _ _ _ _ _ _ 0 [(0, .ref o), (1, .int (nI s)), (2, .int (nI ad)), (3, .int v), (4, .int (tB rx))] []
  rcases (show s = 0 ∨ s = 1 by omega) with rfl | rfl
  · have hlt : s_cnt 2 A.s.2.1.1 < A.D.1 (0 * 4 + 2) := hlt
    have hD8 := (hd.1 (0 * 4 + 2) (by decide)).2.1
    have hl32 : A.s.2.1.1.length < 32 := w_l32 hS.2.1.2.2.1 (k := 2) (by decide) (by omega)
    have ht8 : t < 8 := by have h3 := (s_fl_lt _ _ _ hf).2; have h4 := hd.2.2.2.1.2; omega
    refine g_iload_n (q := 1) dX8_configure_0 rfl rfl ?_
    refine g_callS (q := 4) dX8_configure_1 rfl ks_X8_116 rfl (c8_checkSide0 hs) (by decide) rfl (bz_le rfl) (by decide) (by decide) (fun r g1 hQ => ?_)
    obtain ⟨rfl, hg⟩ := hQ
    have hg := hg.symm
    subst hg
    refine g_iload_n (q := 5) dX8_configure_4 rfl rfl ?_
    refine g_iconst (q := 6) (v := (nI 1)) dX8_configure_5 rfl (by decide) ?_
    refine g_callS (q := 9) dX8_configure_6 rfl ks_X8_236 rfl (c8_range0 (b := 1) ha (by decide) (by omega)) (by decide) rfl (bz_le rfl) (by decide) (by decide) (fun r g1 hQ => ?_)
    obtain ⟨rfl, hg⟩ := hQ
    have hg := hg.symm
    subst hg
    refine g_aload_n (q := 10) dX8_configure_9 rfl rfl ?_
    refine g_iload_n (q := 11) dX8_configure_10 rfl rfl ?_
    refine g_iconst (q := 12) (v := (nI 2)) dX8_configure_11 rfl (by decide) ?_
    refine gb_callV (q := 15) (j := 0) (i := 0) dX8_configure_12 rfl kv_X8_239 (c8_room0 (k := 2) hs (by decide) (fun k hk => (hd.1 k hk).2.1) hlt hS hD (w_pick3 hB.1 0 3 5 rfl rfl rfl (by decide) (by decide) (by decide))) rfl (by decide) hB rfl rfl rfl rfl (bz_le rfl) (by decide) (by decide) (fun r g1 hQ => ?_)
    obtain ⟨rfl, hg⟩ := hQ
    have hg := hg.symm
    subst hg
    refine g_aload_n (q := 16) dX8_configure_15 rfl rfl ?_
    refine g_iload_n (q := 17) dX8_configure_16 rfl rfl ?_
    refine gb_callV (q := 20) (j := 0) (i := 0) dX8_configure_17 rfl kv_X8_249 (c8_free0 (t := t) hs hd.2.2.2.1.2 h2 hf hS hD (w_pick3 hB.1 0 3 5 rfl rfl rfl (by decide) (by decide) (by decide))) rfl (by decide) hB rfl rfl rfl rfl (bz_le rfl) (by decide) (by decide) (fun r g1 hQ => ?_)
    obtain ⟨rfl, hg⟩ := hQ
    have hg := hg.symm
    subst hg
    refine g_istore (q := 22) dX8_configure_20 rfl (by decide) rfl ?_
    refine g_aload_n (q := 23) dX8_configure_22 rfl rfl ?_
    refine gb_getf (q := 26) (j := 0) (i := 0) dX8_configure_23 rfl fl_X8_43 hB rfl rfl rfl rfl ?_
    refine g_aload_n (q := 27) dX8_configure_26 rfl rfl ?_
    refine gb_getf (q := 30) (j := 0) (i := 0) dX8_configure_27 rfl fl_X8_33 hB rfl rfl rfl rfl ?_
    refine gb_callV (q := 33) (j := 7) (i := 0) dX8_configure_30 rfl kv_X8_230 (c_remember (o := o + 81) (y := o + 27) (n := R.nw) (ct := A.hs.length) (r0 := R.rB (s_nx R.nw)) (r2 := R.rS) (σ := A.s) hnw hlen (h_f_at (s_nx_lt _)) hS (w_pick3 hB.1 7 (8 + s_nx R.nw) 5 rfl (w_bs_at (s_nx_lt _)) rfl (by omega) (by decide) (by omega))) rfl (by decide) hB rfl rfl rfl rfl (bz_le rfl) (by decide) (by decide) (fun r g1 hQ => ?_)
    obtain ⟨rfl, h1⟩ := hQ
    obtain ⟨τ, nw1, rB1, hlk, hB, hk1⟩ := w_rem hW hk h1
    obtain ⟨hn6, hb6, hpq, hT, hD, hS, hnw, hlen, hrg, hs0, hs1⟩ := hk1
    refine g_aload_n (q := 34) dX8_configure_33 rfl rfl ?_
    refine gb_getf (q := 37) (j := 0) (i := 0) dX8_configure_34 rfl fl_X8_33 hB rfl rfl rfl rfl ?_
    refine g_iload_n (q := 38) dX8_configure_37 rfl rfl ?_
    refine gb_callV (q := 41) (j := 5) (i := 0) dX8_configure_38 rfl kv_X8_119 (c_portOf0 (hB.1.at (j := 5) rfl)) rfl (by decide) hB rfl rfl rfl rfl (bz_le rfl) (by decide) (by decide) (fun r g1 hQ => ?_)
    obtain ⟨rfl, hg⟩ := hQ
    have hg := hg.symm
    subst hg
    refine g_astore (q := 43) dX8_configure_41 rfl (by decide) rfl ?_
    refine g_aload (q := 45) dX8_configure_43 rfl rfl ?_
    refine gb_getf (q := 48) (j := 5) (i := 1) dX8_configure_45 rfl fl_X8_167 hB rfl rfl rfl rfl ?_
    refine g_iload (q := 50) dX8_configure_48 rfl rfl ?_
    refine g_iconst (q := 51) (v := (nI 0)) dX8_configure_50 rfl (by decide) ?_
    refine gb_callV (q := 54) (j := 5) (i := 8) dX8_configure_51 rfl kv_X8_252 (c_begin (t := t) ht8 ((hB.1.at (j := 5) rfl).sub 8 rfl)) rfl (by decide) hB rfl rfl rfl rfl (bz_le rfl) (by decide) (by decide) (fun r g1 hQ => ?_)
    obtain ⟨rfl, h1⟩ := hQ
    have hB : bz_B _ _ _ (w_bs E o (A.u_hs (s_kp A.hs τ)) (((R.u_nw nw1).u_rB rB1).u_rS (R.rS.1, R.rS.2.1, (w_beg R.rS.2.2.1 t (nI 0)), R.rS.2.2.2))) := hB.sp (j := 5) rfl 8 rfl h1 (bz_le rfl)
    refine g_aload (q := 56) dX8_configure_54 rfl rfl ?_
    refine gb_getf (q := 59) (j := 5) (i := 1) dX8_configure_56 rfl fl_X8_123 hB rfl rfl rfl rfl ?_
    refine g_iconst (q := 60) (v := (nI 2)) dX8_configure_59 rfl (by decide) ?_
    refine g_iload (q := 62) dX8_configure_60 rfl rfl ?_
    refine g_iload (q := 64) dX8_configure_62 rfl rfl ?_
    refine g_iload_n (q := 65) dX8_configure_64 rfl rfl ?_
    refine g_iconst (q := 66) (v := (nI 1)) dX8_configure_65 rfl (by decide) ?_
    refine g_aload_n (q := 67) dX8_configure_66 rfl rfl ?_
    refine gb_getf (q := 70) (j := 0) (i := 0) dX8_configure_67 rfl fl_X8_33 hB rfl rfl rfl rfl ?_
    refine gb_getf (q := 73) (j := 5) (i := 0) dX8_configure_70 rfl fl_X8_98 hB rfl rfl rfl rfl ?_
    refine g_eqi (v := nI (A.s.1)) (hS.1) ?_
    refine gb_callV (q := 76) (j := 5) (i := 2) dX8_configure_73 rfl kv_X8_242 (c_open (n := A.s.2.1.1.length) (k := 2) (f := R.rS.2.2.1.1) (c := R.rS.2.2.1.2.1) hl32 (by decide) (w_rb rx) (show bz_H _ _ (o + 27 + 2) (b_Line E (o + 27 + 2) R.rS.2.2.1.1 R.rS.2.2.1.2.1 (nI A.s.2.1.1.length)) from by rw [← hS.2.1.2.1]; exact (hB.1.at (j := 5) rfl).sub 2 rfl)) rfl (by decide) hB rfl rfl rfl rfl (bz_le rfl) (by decide) (by decide) (fun r g1 hQ => ?_)
    obtain ⟨rfl, h1⟩ := hQ
    have hB : bz_B _ _ _ (w_bs E o (A.u_hs (s_kp A.hs τ)) (((R.u_nw nw1).u_rB rB1).u_rS (R.rS.1, R.rS.2.1, ((v_open R.rS.2.2.1.1 A.s.2.1.1.length 2 (nI t) (tB rx) (nI ad) (nI 1) (nI A.s.1)), (upd R.rS.2.2.1.2.1 2 (R.rS.2.2.1.2.1 2 + nI 1)), nI (A.s.2.1.1.length + 1), (w_beg R.rS.2.2.1 t (nI 0)).2.2.2), R.rS.2.2.2))) := hB.sp (j := 5) rfl 2 rfl h1 (bz_le rfl)
    refine g_istore (q := 78) dX8_configure_76 rfl (by decide) rfl ?_
    refine g_aload (q := 80) dX8_configure_78 rfl rfl ?_
    refine gb_getf (q := 83) (j := 5) (i := 1) dX8_configure_80 rfl fl_X8_123 hB rfl rfl rfl rfl ?_
    refine g_iload (q := 85) dX8_configure_83 rfl rfl ?_
    refine g_iload_n (q := 86) dX8_configure_85 rfl rfl ?_
    refine gb_callV (q := 89) (j := 5) (i := 2) dX8_configure_86 rfl kv_X8_246 (c_putValues (p := A.s.2.1.1.length) hl32 ((hB.1.at (j := 5) rfl).sub 2 rfl)) rfl (by decide) hB rfl rfl rfl rfl (bz_le rfl) (by decide) (by decide) (fun r g1 hQ => ?_)
    obtain ⟨rfl, h1⟩ := hQ
    have hB : bz_B _ _ _ (w_bs E o (A.u_hs (s_kp A.hs τ)) (((R.u_nw nw1).u_rB rB1).u_rS (R.rS.1, R.rS.2.1, (v_vals (v_open R.rS.2.2.1.1 A.s.2.1.1.length 2 (nI t) (tB rx) (nI ad) (nI 1) (nI A.s.1)) A.s.2.1.1.length v, (upd R.rS.2.2.1.2.1 2 (R.rS.2.2.1.2.1 2 + nI 1)), nI (A.s.2.1.1.length + 1), (w_beg R.rS.2.2.1 t (nI 0)).2.2.2), R.rS.2.2.2))) := hB.sp (j := 5) rfl 2 rfl h1 (bz_le rfl)
    refine g_iload (q := 91) dX8_configure_89 rfl rfl ?_
    exact g_iret dX8_configure_91 rfl (⟨rfl, τ, hlk, w_to (A := (A.u_hs (s_kp A.hs τ)).u_s (s_pt 0 A.s (A.s.2.1.1 ++ [s_ent 2 t rx ad 1 A.s.1 (s_vals v 1)], A.s.2.1.2.1, s_bgn A.s.2.1.2.2.1 t 0, A.s.2.1.2.2.2))) (R := (((R.u_nw nw1).u_rB rB1).u_rS (R.rS.1, R.rS.2.1, (v_vals (v_open R.rS.2.2.1.1 A.s.2.1.1.length 2 (nI t) (tB rx) (nI ad) (nI 1) (nI A.s.1)) A.s.2.1.1.length v, (upd R.rS.2.2.1.2.1 2 (R.rS.2.2.1.2.1 2 + nI 1)), nI (A.s.2.1.1.length + 1), (w_beg R.rS.2.2.1 t (nI 0)).2.2.2), R.rS.2.2.2))) hB ⟨hn6, hb6, hpq, hT, hD, ⟨hS.1, w_que (w_beg_rep (t := t) (w := 0) hS.2.1 (by decide)) (w_txv (k := 2) (t := t) (by decide)) (w_oke (Or.inr ⟨rfl, ht8⟩) (w_vals_len v 1) (by decide) (by omega) hnow) (show s_cnt 2 A.s.2.1.1 < 8 by omega) (fun j hj => (w_vv_lo hj).trans (w_op_lo hj)) w_upc, hS.2.2⟩, hnw, hlen, hrg, hs0, hs1⟩⟩)
  · have hlt : s_cnt 2 A.s.2.2.1 < A.D.1 (1 * 4 + 2) := hlt
    have hD8 := (hd.1 (1 * 4 + 2) (by decide)).2.1
    have hl32 : A.s.2.2.1.length < 32 := w_l32 hS.2.2.2.2.1 (k := 2) (by decide) (by omega)
    have ht8 : t < 8 := by have h3 := (s_fl_lt _ _ _ hf).2; have h4 := hd.2.2.2.1.2; omega
    refine g_iload_n (q := 1) dX8_configure_0 rfl rfl ?_
    refine g_callS (q := 4) dX8_configure_1 rfl ks_X8_116 rfl (c8_checkSide0 hs) (by decide) rfl (bz_le rfl) (by decide) (by decide) (fun r g1 hQ => ?_)
    obtain ⟨rfl, hg⟩ := hQ
    have hg := hg.symm
    subst hg
    refine g_iload_n (q := 5) dX8_configure_4 rfl rfl ?_
    refine g_iconst (q := 6) (v := (nI 1)) dX8_configure_5 rfl (by decide) ?_
    refine g_callS (q := 9) dX8_configure_6 rfl ks_X8_236 rfl (c8_range0 (b := 1) ha (by decide) (by omega)) (by decide) rfl (bz_le rfl) (by decide) (by decide) (fun r g1 hQ => ?_)
    obtain ⟨rfl, hg⟩ := hQ
    have hg := hg.symm
    subst hg
    refine g_aload_n (q := 10) dX8_configure_9 rfl rfl ?_
    refine g_iload_n (q := 11) dX8_configure_10 rfl rfl ?_
    refine g_iconst (q := 12) (v := (nI 2)) dX8_configure_11 rfl (by decide) ?_
    refine gb_callV (q := 15) (j := 0) (i := 0) dX8_configure_12 rfl kv_X8_239 (c8_room0 (k := 2) hs (by decide) (fun k hk => (hd.1 k hk).2.1) hlt hS hD (w_pick3 hB.1 0 3 5 rfl rfl rfl (by decide) (by decide) (by decide))) rfl (by decide) hB rfl rfl rfl rfl (bz_le rfl) (by decide) (by decide) (fun r g1 hQ => ?_)
    obtain ⟨rfl, hg⟩ := hQ
    have hg := hg.symm
    subst hg
    refine g_aload_n (q := 16) dX8_configure_15 rfl rfl ?_
    refine g_iload_n (q := 17) dX8_configure_16 rfl rfl ?_
    refine gb_callV (q := 20) (j := 0) (i := 0) dX8_configure_17 rfl kv_X8_249 (c8_free0 (t := t) hs hd.2.2.2.1.2 h2 hf hS hD (w_pick3 hB.1 0 3 5 rfl rfl rfl (by decide) (by decide) (by decide))) rfl (by decide) hB rfl rfl rfl rfl (bz_le rfl) (by decide) (by decide) (fun r g1 hQ => ?_)
    obtain ⟨rfl, hg⟩ := hQ
    have hg := hg.symm
    subst hg
    refine g_istore (q := 22) dX8_configure_20 rfl (by decide) rfl ?_
    refine g_aload_n (q := 23) dX8_configure_22 rfl rfl ?_
    refine gb_getf (q := 26) (j := 0) (i := 0) dX8_configure_23 rfl fl_X8_43 hB rfl rfl rfl rfl ?_
    refine g_aload_n (q := 27) dX8_configure_26 rfl rfl ?_
    refine gb_getf (q := 30) (j := 0) (i := 0) dX8_configure_27 rfl fl_X8_33 hB rfl rfl rfl rfl ?_
    refine gb_callV (q := 33) (j := 7) (i := 0) dX8_configure_30 rfl kv_X8_230 (c_remember (o := o + 81) (y := o + 27) (n := R.nw) (ct := A.hs.length) (r0 := R.rB (s_nx R.nw)) (r2 := R.rS) (σ := A.s) hnw hlen (h_f_at (s_nx_lt _)) hS (w_pick3 hB.1 7 (8 + s_nx R.nw) 5 rfl (w_bs_at (s_nx_lt _)) rfl (by omega) (by decide) (by omega))) rfl (by decide) hB rfl rfl rfl rfl (bz_le rfl) (by decide) (by decide) (fun r g1 hQ => ?_)
    obtain ⟨rfl, h1⟩ := hQ
    obtain ⟨τ, nw1, rB1, hlk, hB, hk1⟩ := w_rem hW hk h1
    obtain ⟨hn6, hb6, hpq, hT, hD, hS, hnw, hlen, hrg, hs0, hs1⟩ := hk1
    refine g_aload_n (q := 34) dX8_configure_33 rfl rfl ?_
    refine gb_getf (q := 37) (j := 0) (i := 0) dX8_configure_34 rfl fl_X8_33 hB rfl rfl rfl rfl ?_
    refine g_iload_n (q := 38) dX8_configure_37 rfl rfl ?_
    refine gb_callV (q := 41) (j := 5) (i := 0) dX8_configure_38 rfl kv_X8_119 (c_portOf1 (hB.1.at (j := 5) rfl)) rfl (by decide) hB rfl rfl rfl rfl (bz_le rfl) (by decide) (by decide) (fun r g1 hQ => ?_)
    obtain ⟨rfl, hg⟩ := hQ
    have hg := hg.symm
    subst hg
    refine g_astore (q := 43) dX8_configure_41 rfl (by decide) rfl ?_
    refine g_aload (q := 45) dX8_configure_43 rfl rfl ?_
    refine gb_getf (q := 48) (j := 5) (i := 14) dX8_configure_45 rfl fl_X8_167 hB rfl rfl rfl rfl ?_
    refine g_iload (q := 50) dX8_configure_48 rfl rfl ?_
    refine g_iconst (q := 51) (v := (nI 0)) dX8_configure_50 rfl (by decide) ?_
    refine gb_callV (q := 54) (j := 5) (i := 21) dX8_configure_51 rfl kv_X8_252 (c_begin (t := t) ht8 ((hB.1.at (j := 5) rfl).sub 21 rfl)) rfl (by decide) hB rfl rfl rfl rfl (bz_le rfl) (by decide) (by decide) (fun r g1 hQ => ?_)
    obtain ⟨rfl, h1⟩ := hQ
    have hB : bz_B _ _ _ (w_bs E o (A.u_hs (s_kp A.hs τ)) (((R.u_nw nw1).u_rB rB1).u_rS (R.rS.1, R.rS.2.1, R.rS.2.2.1, (w_beg R.rS.2.2.2 t (nI 0))))) := hB.sp (j := 5) rfl 21 rfl h1 (bz_le rfl)
    refine g_aload (q := 56) dX8_configure_54 rfl rfl ?_
    refine gb_getf (q := 59) (j := 5) (i := 14) dX8_configure_56 rfl fl_X8_123 hB rfl rfl rfl rfl ?_
    refine g_iconst (q := 60) (v := (nI 2)) dX8_configure_59 rfl (by decide) ?_
    refine g_iload (q := 62) dX8_configure_60 rfl rfl ?_
    refine g_iload (q := 64) dX8_configure_62 rfl rfl ?_
    refine g_iload_n (q := 65) dX8_configure_64 rfl rfl ?_
    refine g_iconst (q := 66) (v := (nI 1)) dX8_configure_65 rfl (by decide) ?_
    refine g_aload_n (q := 67) dX8_configure_66 rfl rfl ?_
    refine gb_getf (q := 70) (j := 0) (i := 0) dX8_configure_67 rfl fl_X8_33 hB rfl rfl rfl rfl ?_
    refine gb_getf (q := 73) (j := 5) (i := 0) dX8_configure_70 rfl fl_X8_98 hB rfl rfl rfl rfl ?_
    refine g_eqi (v := nI (A.s.1)) (hS.1) ?_
    refine gb_callV (q := 76) (j := 5) (i := 15) dX8_configure_73 rfl kv_X8_242 (c_open (n := A.s.2.2.1.length) (k := 2) (f := R.rS.2.2.2.1) (c := R.rS.2.2.2.2.1) hl32 (by decide) (w_rb rx) (show bz_H _ _ (o + 27 + 15) (b_Line E (o + 27 + 15) R.rS.2.2.2.1 R.rS.2.2.2.2.1 (nI A.s.2.2.1.length)) from by rw [← hS.2.2.2.1]; exact (hB.1.at (j := 5) rfl).sub 15 rfl)) rfl (by decide) hB rfl rfl rfl rfl (bz_le rfl) (by decide) (by decide) (fun r g1 hQ => ?_)
    obtain ⟨rfl, h1⟩ := hQ
    have hB : bz_B _ _ _ (w_bs E o (A.u_hs (s_kp A.hs τ)) (((R.u_nw nw1).u_rB rB1).u_rS (R.rS.1, R.rS.2.1, R.rS.2.2.1, ((v_open R.rS.2.2.2.1 A.s.2.2.1.length 2 (nI t) (tB rx) (nI ad) (nI 1) (nI A.s.1)), (upd R.rS.2.2.2.2.1 2 (R.rS.2.2.2.2.1 2 + nI 1)), nI (A.s.2.2.1.length + 1), (w_beg R.rS.2.2.2 t (nI 0)).2.2.2)))) := hB.sp (j := 5) rfl 15 rfl h1 (bz_le rfl)
    refine g_istore (q := 78) dX8_configure_76 rfl (by decide) rfl ?_
    refine g_aload (q := 80) dX8_configure_78 rfl rfl ?_
    refine gb_getf (q := 83) (j := 5) (i := 14) dX8_configure_80 rfl fl_X8_123 hB rfl rfl rfl rfl ?_
    refine g_iload (q := 85) dX8_configure_83 rfl rfl ?_
    refine g_iload_n (q := 86) dX8_configure_85 rfl rfl ?_
    refine gb_callV (q := 89) (j := 5) (i := 15) dX8_configure_86 rfl kv_X8_246 (c_putValues (p := A.s.2.2.1.length) hl32 ((hB.1.at (j := 5) rfl).sub 15 rfl)) rfl (by decide) hB rfl rfl rfl rfl (bz_le rfl) (by decide) (by decide) (fun r g1 hQ => ?_)
    obtain ⟨rfl, h1⟩ := hQ
    have hB : bz_B _ _ _ (w_bs E o (A.u_hs (s_kp A.hs τ)) (((R.u_nw nw1).u_rB rB1).u_rS (R.rS.1, R.rS.2.1, R.rS.2.2.1, (v_vals (v_open R.rS.2.2.2.1 A.s.2.2.1.length 2 (nI t) (tB rx) (nI ad) (nI 1) (nI A.s.1)) A.s.2.2.1.length v, (upd R.rS.2.2.2.2.1 2 (R.rS.2.2.2.2.1 2 + nI 1)), nI (A.s.2.2.1.length + 1), (w_beg R.rS.2.2.2 t (nI 0)).2.2.2)))) := hB.sp (j := 5) rfl 15 rfl h1 (bz_le rfl)
    refine g_iload (q := 91) dX8_configure_89 rfl rfl ?_
    exact g_iret dX8_configure_91 rfl (⟨rfl, τ, hlk, w_to (A := (A.u_hs (s_kp A.hs τ)).u_s (s_pt 1 A.s (A.s.2.2.1 ++ [s_ent 2 t rx ad 1 A.s.1 (s_vals v 1)], A.s.2.2.2.1, s_bgn A.s.2.2.2.2.1 t 0, A.s.2.2.2.2.2))) (R := (((R.u_nw nw1).u_rB rB1).u_rS (R.rS.1, R.rS.2.1, R.rS.2.2.1, (v_vals (v_open R.rS.2.2.2.1 A.s.2.2.1.length 2 (nI t) (tB rx) (nI ad) (nI 1) (nI A.s.1)) A.s.2.2.1.length v, (upd R.rS.2.2.2.2.1 2 (R.rS.2.2.2.2.1 2 + nI 1)), nI (A.s.2.2.1.length + 1), (w_beg R.rS.2.2.2 t (nI 0)).2.2.2)))) hB ⟨hn6, hb6, hpq, hT, hD, ⟨hS.1, hS.2.1, w_que (w_beg_rep (t := t) (w := 0) hS.2.2 (by decide)) (w_txv (k := 2) (t := t) (by decide)) (w_oke (Or.inr ⟨rfl, ht8⟩) (w_vals_len v 1) (by decide) (by omega) hnow) (show s_cnt 2 A.s.2.2.1 < 8 by omega) (fun j hj => (w_vv_lo hj).trans (w_op_lo hj)) w_upc⟩, hnw, hlen, hrg, hs0, hs1⟩⟩)
set_option maxRecDepth 20000 in
set_option maxHeartbeats 1000000 in
theorem c8_read3 {l : Launch} {E : bz_E} {L : List Nat} {g : Nat → va_E} {o : Nat} {v a b c : Int32} (hl : l.stackTraces = false) (hb : m_bad v 2 = true) : bz_KX l E mX8_read 7 [.ref o, .int v, .int a, .int b, .int c] L g x_IOE := by
  refine bz_KX.of (by decide) (bz_le rfl) (fun sz => ?_)
  show bz_G _ _ _ _ _ _ _ _ _ _ _ _ 0 [(0, .ref o), (1, .int v), (2, .int a), (3, .int b), (4, .int c)] []
  refine g_iload_n (q := 1) dX8_read_0 rfl rfl ?_
  exact g_callSX dX8_read_1 (by decide +kernel) ks_X8_116 rfl (c8_checkSide1 hl hb) (by decide) rfl (bz_le rfl)
set_option maxRecDepth 20000 in
set_option maxHeartbeats 1000000 in
theorem c8_read2 {l : Launch} {E : bz_E} {L : List Nat} {g : Nat → va_E} {o s : Nat} {v w c : Int32} (hl : l.stackTraces = false) (hs : s < 2) (hb : m_bad v 16 = true ∨ (if w < nI 1 then (0 : Int32) else if nI 4 < w then 0 else 1) = nI 0 ∨ ∃ a b : Nat, v = nI a ∧ w = nI b ∧ a < 16 ∧ b ≤ 4 ∧ 16 < a + b) : bz_KX l E mX8_read 7 [.ref o, .int (nI s), .int v, .int w, .int c] L g x_IAE := by
  refine bz_KX.of (by decide) (bz_le rfl) (fun sz => ?_)
  show bz_G _ _ _ _ _ _ _ _ _ _ _ _ 0 [(0, .ref o), (1, .int (nI s)), (2, .int v), (3, .int w), (4, .int c)] []
  refine g_iload_n (q := 1) dX8_read_0 rfl rfl ?_
  refine g_callS (q := 4) dX8_read_1 rfl ks_X8_116 rfl (c8_checkSide0 hs) (by decide) rfl (bz_le rfl) (by decide) (by decide) (fun r g1 hQ => ?_)
  obtain ⟨rfl, hg⟩ := hQ
  have hg := hg.symm
  subst hg
  refine g_iload_n (q := 5) dX8_read_4 rfl rfl ?_
  refine g_iload_n (q := 6) dX8_read_5 rfl rfl ?_
  exact g_callSX dX8_read_6 (by decide +kernel) ks_X8_236 rfl (c8_range1 hl hb) (by decide) rfl (bz_le rfl)
set_option maxRecDepth 20000 in
set_option maxHeartbeats 1000000 in
theorem c8_read1 {l : Launch} {E : bz_E} {L : List Nat} {g : Nat → va_E} {o : Nat} {A : WA} {s ad wd : Nat} {rx : Bool} (hl : l.stackTraces = false) (hs : s < 2) (hd : d_ok A.D) (hw : 1 ≤ wd ∧ wd ≤ 4) (ha : ad + wd ≤ 16) (hlt : A.D.1 (s * 4 + 1) ≤ s_cnt 1 (s_sd s A.s).1) (hX : w_X E L g o A) : bz_KX l E mX8_read 7 [.ref o, .int (nI s), .int (nI ad), .int (nI wd), .int (tB rx)] L g x_ISE := by
  refine bz_KX.of (by decide) (bz_le rfl) (fun sz => ?_)
  obtain ⟨R, hW, hk⟩ := hX
  have hB := bz_B.rf hW
  obtain ⟨hn6, hb6, hpq, hT, hD, hS, hnw, hlen, hrg, hs0, hs1⟩ := hk
  show bz_G _ _ _ _ _ _ _ _ _ _ _ _ 0 [(0, .ref o), (1, .int (nI s)), (2, .int (nI ad)), (3, .int (nI wd)), (4, .int (tB rx))] []
  refine g_iload_n (q := 1) dX8_read_0 rfl rfl ?_
  refine g_callS (q := 4) dX8_read_1 rfl ks_X8_116 rfl (c8_checkSide0 hs) (by decide) rfl (bz_le rfl) (by decide) (by decide) (fun r g1 hQ => ?_)
  obtain ⟨rfl, hg⟩ := hQ
  have hg := hg.symm
  subst hg
  refine g_iload_n (q := 5) dX8_read_4 rfl rfl ?_
  refine g_iload_n (q := 6) dX8_read_5 rfl rfl ?_
  refine g_callS (q := 9) dX8_read_6 rfl ks_X8_236 rfl (c8_range0 (by omega) hw ha) (by decide) rfl (bz_le rfl) (by decide) (by decide) (fun r g1 hQ => ?_)
  obtain ⟨rfl, hg⟩ := hQ
  have hg := hg.symm
  subst hg
  refine g_aload_n (q := 10) dX8_read_9 rfl rfl ?_
  refine g_iload_n (q := 11) dX8_read_10 rfl rfl ?_
  refine g_iconst (q := 12) (v := (nI 1)) dX8_read_11 rfl (by decide) ?_
  exact g_callVX dX8_read_12 (by decide +kernel) kv_X8_239 (c8_room1 (k := 1) hl hs (by decide) (fun k hk => (hd.1 k hk).2.1) hlt hS hD (w_pick3 hB.1 0 3 5 rfl rfl rfl (by decide) (by decide) (by decide))) rfl (by decide) (hW.at (j := 0) rfl 0 _ rfl).1 (hW.at (j := 0) rfl 0 _ rfl).2 rfl (bz_le rfl)
set_option maxRecDepth 20000 in
set_option maxHeartbeats 1000000 in
theorem c8_read4 {l : Launch} {E : bz_E} {L : List Nat} {g : Nat → va_E} {o : Nat} {A : WA} {s ad wd : Nat} {rx : Bool} (hl : l.stackTraces = false) (hs : s < 2) (hd : d_ok A.D) (hw : 1 ≤ wd ∧ wd ≤ 4) (ha : ad + wd ≤ 16) (hlt : s_cnt 1 (s_sd s A.s).1 < A.D.1 (s * 4 + 1)) (h2 : ∀ t, t < 8 → (s_sd s A.s).2.2.1.1 t ≤ 2) (hf : s_fl (s_sd s A.s).2.2.1.1 A.D.2.2.2.2.2.1 0 = none) (hX : w_X E L g o A) : bz_KX l E mX8_read 7 [.ref o, .int (nI s), .int (nI ad), .int (nI wd), .int (tB rx)] L g x_ISE := by
  refine bz_KX.of (by decide) (bz_le rfl) (fun sz => ?_)
  obtain ⟨R, hW, hk⟩ := hX
  have hB := bz_B.rf hW
  obtain ⟨hn6, hb6, hpq, hT, hD, hS, hnw, hlen, hrg, hs0, hs1⟩ := hk
  show bz_G _ _ _ _ _ _ _ _ _ _ _ _ 0 [(0, .ref o), (1, .int (nI s)), (2, .int (nI ad)), (3, .int (nI wd)), (4, .int (tB rx))] []
  refine g_iload_n (q := 1) dX8_read_0 rfl rfl ?_
  refine g_callS (q := 4) dX8_read_1 rfl ks_X8_116 rfl (c8_checkSide0 hs) (by decide) rfl (bz_le rfl) (by decide) (by decide) (fun r g1 hQ => ?_)
  obtain ⟨rfl, hg⟩ := hQ
  have hg := hg.symm
  subst hg
  refine g_iload_n (q := 5) dX8_read_4 rfl rfl ?_
  refine g_iload_n (q := 6) dX8_read_5 rfl rfl ?_
  refine g_callS (q := 9) dX8_read_6 rfl ks_X8_236 rfl (c8_range0 (by omega) hw ha) (by decide) rfl (bz_le rfl) (by decide) (by decide) (fun r g1 hQ => ?_)
  obtain ⟨rfl, hg⟩ := hQ
  have hg := hg.symm
  subst hg
  refine g_aload_n (q := 10) dX8_read_9 rfl rfl ?_
  refine g_iload_n (q := 11) dX8_read_10 rfl rfl ?_
  refine g_iconst (q := 12) (v := (nI 1)) dX8_read_11 rfl (by decide) ?_
  refine gb_callV (q := 15) (j := 0) (i := 0) dX8_read_12 rfl kv_X8_239 (c8_room0 (k := 1) hs (by decide) (fun k hk => (hd.1 k hk).2.1) hlt hS hD (w_pick3 hB.1 0 3 5 rfl rfl rfl (by decide) (by decide) (by decide))) rfl (by decide) hB rfl rfl rfl rfl (bz_le rfl) (by decide) (by decide) (fun r g1 hQ => ?_)
  obtain ⟨rfl, hg⟩ := hQ
  have hg := hg.symm
  subst hg
  refine g_aload_n (q := 16) dX8_read_15 rfl rfl ?_
  refine g_iload_n (q := 17) dX8_read_16 rfl rfl ?_
  exact g_callVX dX8_read_17 (by decide +kernel) kv_X8_249 (c8_free1 hl hs hd.2.2.2.1.2 h2 hf hS hD (w_pick3 hB.1 0 3 5 rfl rfl rfl (by decide) (by decide) (by decide))) rfl (by decide) (hW.at (j := 0) rfl 0 _ rfl).1 (hW.at (j := 0) rfl 0 _ rfl).2 rfl (bz_le rfl)
set_option maxRecDepth 20000 in
set_option maxHeartbeats 1000000 in
theorem c8_configure3 {l : Launch} {E : bz_E} {L : List Nat} {g : Nat → va_E} {o : Nat} {v a b c : Int32} (hl : l.stackTraces = false) (hb : m_bad v 2 = true) : bz_KX l E mX8_configure 7 [.ref o, .int v, .int a, .int b, .int c] L g x_IOE := by
  refine bz_KX.of (by decide) (bz_le rfl) (fun sz => ?_)
  show bz_G _ _ _ _ _ _ _ _ _ _ _ _ 0 [(0, .ref o), (1, .int v), (2, .int a), (3, .int b), (4, .int c)] []
  refine g_iload_n (q := 1) dX8_configure_0 rfl rfl ?_
  exact g_callSX dX8_configure_1 (by decide +kernel) ks_X8_116 rfl (c8_checkSide1 hl hb) (by decide) rfl (bz_le rfl)
set_option maxRecDepth 20000 in
set_option maxHeartbeats 1000000 in
theorem c8_configure2 {l : Launch} {E : bz_E} {L : List Nat} {g : Nat → va_E} {o s : Nat} {v w c : Int32} (hl : l.stackTraces = false) (hs : s < 2) (hb : m_bad v 16 = true) : bz_KX l E mX8_configure 7 [.ref o, .int (nI s), .int v, .int w, .int c] L g x_IAE := by
  refine bz_KX.of (by decide) (bz_le rfl) (fun sz => ?_)
  show bz_G _ _ _ _ _ _ _ _ _ _ _ _ 0 [(0, .ref o), (1, .int (nI s)), (2, .int v), (3, .int w), (4, .int c)] []
  refine g_iload_n (q := 1) dX8_configure_0 rfl rfl ?_
  refine g_callS (q := 4) dX8_configure_1 rfl ks_X8_116 rfl (c8_checkSide0 hs) (by decide) rfl (bz_le rfl) (by decide) (by decide) (fun r g1 hQ => ?_)
  obtain ⟨rfl, hg⟩ := hQ
  have hg := hg.symm
  subst hg
  refine g_iload_n (q := 5) dX8_configure_4 rfl rfl ?_
  refine g_iconst (q := 6) (v := (nI 1)) dX8_configure_5 rfl (by decide) ?_
  exact g_callSX dX8_configure_6 (by decide +kernel) ks_X8_236 rfl (c8_range1 hl (Or.inl hb)) (by decide) rfl (bz_le rfl)
set_option maxRecDepth 20000 in
set_option maxHeartbeats 1000000 in
theorem c8_configure1 {l : Launch} {E : bz_E} {L : List Nat} {g : Nat → va_E} {o : Nat} {A : WA} {s ad : Nat} {v : Int32} {rx : Bool} (hl : l.stackTraces = false) (hs : s < 2) (hd : d_ok A.D) (ha : ad < 16) (hlt : A.D.1 (s * 4 + 2) ≤ s_cnt 2 (s_sd s A.s).1) (hX : w_X E L g o A) : bz_KX l E mX8_configure 7 [.ref o, .int (nI s), .int (nI ad), .int v, .int (tB rx)] L g x_ISE := by
  refine bz_KX.of (by decide) (bz_le rfl) (fun sz => ?_)
  obtain ⟨R, hW, hk⟩ := hX
  have hB := bz_B.rf hW
  obtain ⟨hn6, hb6, hpq, hT, hD, hS, hnw, hlen, hrg, hs0, hs1⟩ := hk
  show bz_G _ _ _ _ _ _ _ _ _ _ _ _ 0 [(0, .ref o), (1, .int (nI s)), (2, .int (nI ad)), (3, .int v), (4, .int (tB rx))] []
  refine g_iload_n (q := 1) dX8_configure_0 rfl rfl ?_
  refine g_callS (q := 4) dX8_configure_1 rfl ks_X8_116 rfl (c8_checkSide0 hs) (by decide) rfl (bz_le rfl) (by decide) (by decide) (fun r g1 hQ => ?_)
  obtain ⟨rfl, hg⟩ := hQ
  have hg := hg.symm
  subst hg
  refine g_iload_n (q := 5) dX8_configure_4 rfl rfl ?_
  refine g_iconst (q := 6) (v := (nI 1)) dX8_configure_5 rfl (by decide) ?_
  refine g_callS (q := 9) dX8_configure_6 rfl ks_X8_236 rfl (c8_range0 (b := 1) ha (by decide) (by omega)) (by decide) rfl (bz_le rfl) (by decide) (by decide) (fun r g1 hQ => ?_)
  obtain ⟨rfl, hg⟩ := hQ
  have hg := hg.symm
  subst hg
  refine g_aload_n (q := 10) dX8_configure_9 rfl rfl ?_
  refine g_iload_n (q := 11) dX8_configure_10 rfl rfl ?_
  refine g_iconst (q := 12) (v := (nI 2)) dX8_configure_11 rfl (by decide) ?_
  exact g_callVX dX8_configure_12 (by decide +kernel) kv_X8_239 (c8_room1 (k := 2) hl hs (by decide) (fun k hk => (hd.1 k hk).2.1) hlt hS hD (w_pick3 hB.1 0 3 5 rfl rfl rfl (by decide) (by decide) (by decide))) rfl (by decide) (hW.at (j := 0) rfl 0 _ rfl).1 (hW.at (j := 0) rfl 0 _ rfl).2 rfl (bz_le rfl)
set_option maxRecDepth 20000 in
set_option maxHeartbeats 1000000 in
theorem c8_configure4 {l : Launch} {E : bz_E} {L : List Nat} {g : Nat → va_E} {o : Nat} {A : WA} {s ad : Nat} {v : Int32} {rx : Bool} (hl : l.stackTraces = false) (hs : s < 2) (hd : d_ok A.D) (ha : ad < 16) (hlt : s_cnt 2 (s_sd s A.s).1 < A.D.1 (s * 4 + 2)) (h2 : ∀ t, t < 8 → (s_sd s A.s).2.2.1.1 t ≤ 2) (hf : s_fl (s_sd s A.s).2.2.1.1 A.D.2.2.2.2.2.1 0 = none) (hX : w_X E L g o A) : bz_KX l E mX8_configure 7 [.ref o, .int (nI s), .int (nI ad), .int v, .int (tB rx)] L g x_ISE := by
  refine bz_KX.of (by decide) (bz_le rfl) (fun sz => ?_)
  obtain ⟨R, hW, hk⟩ := hX
  have hB := bz_B.rf hW
  obtain ⟨hn6, hb6, hpq, hT, hD, hS, hnw, hlen, hrg, hs0, hs1⟩ := hk
  show bz_G _ _ _ _ _ _ _ _ _ _ _ _ 0 [(0, .ref o), (1, .int (nI s)), (2, .int (nI ad)), (3, .int v), (4, .int (tB rx))] []
  refine g_iload_n (q := 1) dX8_configure_0 rfl rfl ?_
  refine g_callS (q := 4) dX8_configure_1 rfl ks_X8_116 rfl (c8_checkSide0 hs) (by decide) rfl (bz_le rfl) (by decide) (by decide) (fun r g1 hQ => ?_)
  obtain ⟨rfl, hg⟩ := hQ
  have hg := hg.symm
  subst hg
  refine g_iload_n (q := 5) dX8_configure_4 rfl rfl ?_
  refine g_iconst (q := 6) (v := (nI 1)) dX8_configure_5 rfl (by decide) ?_
  refine g_callS (q := 9) dX8_configure_6 rfl ks_X8_236 rfl (c8_range0 (b := 1) ha (by decide) (by omega)) (by decide) rfl (bz_le rfl) (by decide) (by decide) (fun r g1 hQ => ?_)
  obtain ⟨rfl, hg⟩ := hQ
  have hg := hg.symm
  subst hg
  refine g_aload_n (q := 10) dX8_configure_9 rfl rfl ?_
  refine g_iload_n (q := 11) dX8_configure_10 rfl rfl ?_
  refine g_iconst (q := 12) (v := (nI 2)) dX8_configure_11 rfl (by decide) ?_
  refine gb_callV (q := 15) (j := 0) (i := 0) dX8_configure_12 rfl kv_X8_239 (c8_room0 (k := 2) hs (by decide) (fun k hk => (hd.1 k hk).2.1) hlt hS hD (w_pick3 hB.1 0 3 5 rfl rfl rfl (by decide) (by decide) (by decide))) rfl (by decide) hB rfl rfl rfl rfl (bz_le rfl) (by decide) (by decide) (fun r g1 hQ => ?_)
  obtain ⟨rfl, hg⟩ := hQ
  have hg := hg.symm
  subst hg
  refine g_aload_n (q := 16) dX8_configure_15 rfl rfl ?_
  refine g_iload_n (q := 17) dX8_configure_16 rfl rfl ?_
  exact g_callVX dX8_configure_17 (by decide +kernel) kv_X8_249 (c8_free1 hl hs hd.2.2.2.1.2 h2 hf hS hD (w_pick3 hB.1 0 3 5 rfl rfl rfl (by decide) (by decide) (by decide))) rfl (by decide) (hW.at (j := 0) rfl 0 _ rfl).1 (hW.at (j := 0) rfl 0 _ rfl).2 rfl (bz_le rfl)
set_option maxRecDepth 20000 in
set_option maxHeartbeats 1000000 in
theorem c8_release0 {l : Launch} {E : bz_E} {L : List Nat} {g : Nat → va_E} {o : Nat} {A : WA} {s t : Nat} (hs : s < 2) (hd : d_ok A.D) (hk9 : t < A.D.2.2.2.2.2.1) (hb : (s_sd s A.s).2.2.1.1 t = 2) (hX : w_X E L g o A) : bz_K l E mX8_release 5 [.ref o, .int (nI s), .int (nI t)] L g (fun r g1 => r = some (.int (nI (v_pc ((s_sd s A.s).2.2.1.2.2.1 t)))) ∧ ∃ τ : Si, s_like A.s τ ∧ w_P E L g o ((A.u_hs (s_kp A.hs τ)).u_s (s_pt s A.s ((s_sd s A.s).1, (s_sd s A.s).2.1, s_rls (s_sd s A.s).2.2.1 t, (s_sd s A.s).2.2.2))) g1) := by
  refine bz_K.of (by decide) (bz_le rfl) (fun sz => ?_)
  obtain ⟨R, hW, hk⟩ := hX
  have hB := bz_B.rf hW
  obtain ⟨hn6, hb6, hpq, hT, hD, hS, hnw, hlen, hrg, hs0, hs1⟩ := id hk
  show bz_G _ _ _ _ _ _ _ _ _ _ _ _ 0 [(0, .ref o), (1, .int (nI s)), (2, .int (nI t))] []
  rcases (show s = 0 ∨ s = 1 by omega) with rfl | rfl
  · have ht8 : t < 8 := by have h4 := hd.2.2.2.1.2; omega
    refine g_aload_n (q := 1) dX8_release_0 rfl rfl ?_
    refine g_iload_n (q := 2) dX8_release_1 rfl rfl ?_
    refine g_iload_n (q := 3) dX8_release_2 rfl rfl ?_
    refine gb_callV (q := 6) (j := 0) (i := 0) dX8_release_3 rfl kv_X8_164 (c8_tag0 hs hd.2.2.2.1.2 hk9 hS hD (w_pick3 hB.1 0 3 5 rfl rfl rfl (by decide) (by decide) (by decide))) rfl (by decide) hB rfl rfl rfl rfl (bz_le rfl) (by decide) (by decide) (fun r g1 hQ => ?_)
    obtain ⟨rfl, hg⟩ := hQ
    have hg := hg.symm
    subst hg
    refine g_aload_n (q := 7) dX8_release_6 rfl rfl ?_
    refine gb_getf (q := 10) (j := 0) (i := 0) dX8_release_7 rfl fl_X8_33 hB rfl rfl rfl rfl ?_
    refine g_iload_n (q := 11) dX8_release_10 rfl rfl ?_
    refine gb_callV (q := 14) (j := 5) (i := 0) dX8_release_11 rfl kv_X8_119 (c_portOf0 (hB.1.at (j := 5) rfl)) rfl (by decide) hB rfl rfl rfl rfl (bz_le rfl) (by decide) (by decide) (fun r g1 hQ => ?_)
    obtain ⟨rfl, hg⟩ := hQ
    have hg := hg.symm
    subst hg
    refine gb_getf (q := 17) (j := 5) (i := 1) dX8_release_14 rfl fl_X8_167 hB rfl rfl rfl rfl ?_
    refine g_astore_n (q := 18) rfl dX8_release_17 rfl (by decide) rfl ?_
    refine g_aload_n (q := 19) dX8_release_18 rfl rfl ?_
    refine g_iload_n (q := 20) dX8_release_19 rfl rfl ?_
    refine gb_callV (q := 23) (j := 5) (i := 8) dX8_release_20 rfl kv_X8_171 (c_stateOf (t := t) ht8 ((hB.1.at (j := 5) rfl).sub 8 rfl)) rfl (by decide) hB rfl rfl rfl rfl (bz_le rfl) (by decide) (by decide) (fun r g1 hQ => ?_)
    obtain ⟨rfl, hg⟩ := hQ
    have hg := hg.symm
    subst hg
    refine g_eqi (v := nI (A.s.2.1.2.2.1.1 t)) (hS.2.1.2.2.2.2.2.2.1.1 t ht8).1 ?_
    have hb : A.s.2.1.2.2.1.1 t = 2 := hb
    refine g_iconst (q := 24) (v := (nI 2)) dX8_release_23 rfl (by decide) ?_
    refine g_icmpN_eq (q := 27) (t := 37) dX8_release_24 rfl (by decide) (by omega) (by omega) (fun _ => ?_) (fun c => absurd c (by omega))
    refine g_aload_n (q := 38) dX8_release_37 rfl rfl ?_
    refine gb_getf (q := 41) (j := 0) (i := 0) dX8_release_38 rfl fl_X8_43 hB rfl rfl rfl rfl ?_
    refine g_aload_n (q := 42) dX8_release_41 rfl rfl ?_
    refine gb_getf (q := 45) (j := 0) (i := 0) dX8_release_42 rfl fl_X8_33 hB rfl rfl rfl rfl ?_
    refine gb_callV (q := 48) (j := 7) (i := 0) dX8_release_45 rfl kv_X8_230 (c_remember (o := o + 81) (y := o + 27) (n := R.nw) (ct := A.hs.length) (r0 := R.rB (s_nx R.nw)) (r2 := R.rS) (σ := A.s) hnw hlen (h_f_at (s_nx_lt _)) hS (w_pick3 hB.1 7 (8 + s_nx R.nw) 5 rfl (w_bs_at (s_nx_lt _)) rfl (by omega) (by decide) (by omega))) rfl (by decide) hB rfl rfl rfl rfl (bz_le rfl) (by decide) (by decide) (fun r g1 hQ => ?_)
    obtain ⟨rfl, h1⟩ := hQ
    obtain ⟨τ, nw1, rB1, hlk, hB, hk1⟩ := w_rem hW hk h1
    obtain ⟨hn6, hb6, hpq, hT, hD, hS, hnw, hlen, hrg, hs0, hs1⟩ := hk1
    refine g_aload_n (q := 49) dX8_release_48 rfl rfl ?_
    refine g_iload_n (q := 50) dX8_release_49 rfl rfl ?_
    refine gb_callV (q := 53) (j := 5) (i := 8) dX8_release_50 rfl kv_X8_176 (c_storedWords (t := t) (m := A.s.2.1.2.2.1.2.2.1 t) ht8 (hS.2.1.2.2.2.2.2.2.1.1 t ht8).2.2.2.2 (hS.2.1.2.2.2.2.2.2.1.1 t ht8).2.2.1 ((hB.1.at (j := 5) rfl).sub 8 rfl)) rfl (by decide) hB rfl rfl rfl rfl (bz_le rfl) (by decide) (by decide) (fun r g1 hQ => ?_)
    obtain ⟨rfl, hg⟩ := hQ
    have hg := hg.symm
    subst hg
    refine g_istore (q := 55) dX8_release_53 rfl (by decide) rfl ?_
    refine g_aload_n (q := 56) dX8_release_55 rfl rfl ?_
    refine g_iload_n (q := 57) dX8_release_56 rfl rfl ?_
    refine gb_callV (q := 60) (j := 5) (i := 8) dX8_release_57 rfl kv_X8_257 (c_free (t := t) ht8 ((hB.1.at (j := 5) rfl).sub 8 rfl)) rfl (by decide) hB rfl rfl rfl rfl (bz_le rfl) (by decide) (by decide) (fun r g1 hQ => ?_)
    obtain ⟨rfl, h1⟩ := hQ
    have hB : bz_B _ _ _ (w_bs E o (A.u_hs (s_kp A.hs τ)) (((R.u_nw nw1).u_rB rB1).u_rS (R.rS.1, R.rS.2.1, (w_fre R.rS.2.2.1 t), R.rS.2.2.2))) := hB.sp (j := 5) rfl 8 rfl h1 (bz_le rfl)
    refine g_iload (q := 62) dX8_release_60 rfl rfl ?_
    exact g_iret dX8_release_62 rfl (⟨rfl, τ, hlk, w_to (A := (A.u_hs (s_kp A.hs τ)).u_s (s_pt 0 A.s (A.s.2.1.1, A.s.2.1.2.1, s_rls A.s.2.1.2.2.1 t, A.s.2.1.2.2.2))) (R := (((R.u_nw nw1).u_rB rB1).u_rS (R.rS.1, R.rS.2.1, (w_fre R.rS.2.2.1 t), R.rS.2.2.2))) hB ⟨hn6, hb6, hpq, hT, hD, ⟨hS.1, w_fre_rep (t := t) hS.2.1, hS.2.2⟩, hnw, hlen, hrg, hs0, hs1⟩⟩)
  · have ht8 : t < 8 := by have h4 := hd.2.2.2.1.2; omega
    refine g_aload_n (q := 1) dX8_release_0 rfl rfl ?_
    refine g_iload_n (q := 2) dX8_release_1 rfl rfl ?_
    refine g_iload_n (q := 3) dX8_release_2 rfl rfl ?_
    refine gb_callV (q := 6) (j := 0) (i := 0) dX8_release_3 rfl kv_X8_164 (c8_tag0 hs hd.2.2.2.1.2 hk9 hS hD (w_pick3 hB.1 0 3 5 rfl rfl rfl (by decide) (by decide) (by decide))) rfl (by decide) hB rfl rfl rfl rfl (bz_le rfl) (by decide) (by decide) (fun r g1 hQ => ?_)
    obtain ⟨rfl, hg⟩ := hQ
    have hg := hg.symm
    subst hg
    refine g_aload_n (q := 7) dX8_release_6 rfl rfl ?_
    refine gb_getf (q := 10) (j := 0) (i := 0) dX8_release_7 rfl fl_X8_33 hB rfl rfl rfl rfl ?_
    refine g_iload_n (q := 11) dX8_release_10 rfl rfl ?_
    refine gb_callV (q := 14) (j := 5) (i := 0) dX8_release_11 rfl kv_X8_119 (c_portOf1 (hB.1.at (j := 5) rfl)) rfl (by decide) hB rfl rfl rfl rfl (bz_le rfl) (by decide) (by decide) (fun r g1 hQ => ?_)
    obtain ⟨rfl, hg⟩ := hQ
    have hg := hg.symm
    subst hg
    refine gb_getf (q := 17) (j := 5) (i := 14) dX8_release_14 rfl fl_X8_167 hB rfl rfl rfl rfl ?_
    refine g_astore_n (q := 18) rfl dX8_release_17 rfl (by decide) rfl ?_
    refine g_aload_n (q := 19) dX8_release_18 rfl rfl ?_
    refine g_iload_n (q := 20) dX8_release_19 rfl rfl ?_
    refine gb_callV (q := 23) (j := 5) (i := 21) dX8_release_20 rfl kv_X8_171 (c_stateOf (t := t) ht8 ((hB.1.at (j := 5) rfl).sub 21 rfl)) rfl (by decide) hB rfl rfl rfl rfl (bz_le rfl) (by decide) (by decide) (fun r g1 hQ => ?_)
    obtain ⟨rfl, hg⟩ := hQ
    have hg := hg.symm
    subst hg
    refine g_eqi (v := nI (A.s.2.2.2.2.1.1 t)) (hS.2.2.2.2.2.2.2.2.1.1 t ht8).1 ?_
    have hb : A.s.2.2.2.2.1.1 t = 2 := hb
    refine g_iconst (q := 24) (v := (nI 2)) dX8_release_23 rfl (by decide) ?_
    refine g_icmpN_eq (q := 27) (t := 37) dX8_release_24 rfl (by decide) (by omega) (by omega) (fun _ => ?_) (fun c => absurd c (by omega))
    refine g_aload_n (q := 38) dX8_release_37 rfl rfl ?_
    refine gb_getf (q := 41) (j := 0) (i := 0) dX8_release_38 rfl fl_X8_43 hB rfl rfl rfl rfl ?_
    refine g_aload_n (q := 42) dX8_release_41 rfl rfl ?_
    refine gb_getf (q := 45) (j := 0) (i := 0) dX8_release_42 rfl fl_X8_33 hB rfl rfl rfl rfl ?_
    refine gb_callV (q := 48) (j := 7) (i := 0) dX8_release_45 rfl kv_X8_230 (c_remember (o := o + 81) (y := o + 27) (n := R.nw) (ct := A.hs.length) (r0 := R.rB (s_nx R.nw)) (r2 := R.rS) (σ := A.s) hnw hlen (h_f_at (s_nx_lt _)) hS (w_pick3 hB.1 7 (8 + s_nx R.nw) 5 rfl (w_bs_at (s_nx_lt _)) rfl (by omega) (by decide) (by omega))) rfl (by decide) hB rfl rfl rfl rfl (bz_le rfl) (by decide) (by decide) (fun r g1 hQ => ?_)
    obtain ⟨rfl, h1⟩ := hQ
    obtain ⟨τ, nw1, rB1, hlk, hB, hk1⟩ := w_rem hW hk h1
    obtain ⟨hn6, hb6, hpq, hT, hD, hS, hnw, hlen, hrg, hs0, hs1⟩ := hk1
    refine g_aload_n (q := 49) dX8_release_48 rfl rfl ?_
    refine g_iload_n (q := 50) dX8_release_49 rfl rfl ?_
    refine gb_callV (q := 53) (j := 5) (i := 21) dX8_release_50 rfl kv_X8_176 (c_storedWords (t := t) (m := A.s.2.2.2.2.1.2.2.1 t) ht8 (hS.2.2.2.2.2.2.2.2.1.1 t ht8).2.2.2.2 (hS.2.2.2.2.2.2.2.2.1.1 t ht8).2.2.1 ((hB.1.at (j := 5) rfl).sub 21 rfl)) rfl (by decide) hB rfl rfl rfl rfl (bz_le rfl) (by decide) (by decide) (fun r g1 hQ => ?_)
    obtain ⟨rfl, hg⟩ := hQ
    have hg := hg.symm
    subst hg
    refine g_istore (q := 55) dX8_release_53 rfl (by decide) rfl ?_
    refine g_aload_n (q := 56) dX8_release_55 rfl rfl ?_
    refine g_iload_n (q := 57) dX8_release_56 rfl rfl ?_
    refine gb_callV (q := 60) (j := 5) (i := 21) dX8_release_57 rfl kv_X8_257 (c_free (t := t) ht8 ((hB.1.at (j := 5) rfl).sub 21 rfl)) rfl (by decide) hB rfl rfl rfl rfl (bz_le rfl) (by decide) (by decide) (fun r g1 hQ => ?_)
    obtain ⟨rfl, h1⟩ := hQ
    have hB : bz_B _ _ _ (w_bs E o (A.u_hs (s_kp A.hs τ)) (((R.u_nw nw1).u_rB rB1).u_rS (R.rS.1, R.rS.2.1, R.rS.2.2.1, (w_fre R.rS.2.2.2 t)))) := hB.sp (j := 5) rfl 21 rfl h1 (bz_le rfl)
    refine g_iload (q := 62) dX8_release_60 rfl rfl ?_
    exact g_iret dX8_release_62 rfl (⟨rfl, τ, hlk, w_to (A := (A.u_hs (s_kp A.hs τ)).u_s (s_pt 1 A.s (A.s.2.2.1, A.s.2.2.2.1, s_rls A.s.2.2.2.2.1 t, A.s.2.2.2.2.2))) (R := (((R.u_nw nw1).u_rB rB1).u_rS (R.rS.1, R.rS.2.1, R.rS.2.2.1, (w_fre R.rS.2.2.2 t)))) hB ⟨hn6, hb6, hpq, hT, hD, ⟨hS.1, hS.2.1, w_fre_rep (t := t) hS.2.2⟩, hnw, hlen, hrg, hs0, hs1⟩⟩)
set_option maxRecDepth 20000 in
set_option maxHeartbeats 1000000 in
theorem c8_release1 {l : Launch} {E : bz_E} {L : List Nat} {g : Nat → va_E} {o : Nat} {A : WA} {s t : Nat} (hl : l.stackTraces = false) (hs : s < 2) (hd : d_ok A.D) (hk9 : t < A.D.2.2.2.2.2.1) (h2 : (s_sd s A.s).2.2.1.1 t ≤ 2) (hb : (s_sd s A.s).2.2.1.1 t ≠ 2) (hX : w_X E L g o A) : bz_KX l E mX8_release 6 [.ref o, .int (nI s), .int (nI t)] L g x_ISE := by
  refine bz_KX.of (by decide) (bz_le rfl) (fun sz => ?_)
  obtain ⟨R, hW, hk⟩ := hX
  have hB := bz_B.rf hW
  obtain ⟨hn6, hb6, hpq, hT, hD, hS, hnw, hlen, hrg, hs0, hs1⟩ := hk
  show bz_G _ _ _ _ _ _ _ _ _ _ _ _ 0 [(0, .ref o), (1, .int (nI s)), (2, .int (nI t))] []
  rcases (show s = 0 ∨ s = 1 by omega) with rfl | rfl
  · have ht8 : t < 8 := by have h4 := hd.2.2.2.1.2; omega
    refine g_aload_n (q := 1) dX8_release_0 rfl rfl ?_
    refine g_iload_n (q := 2) dX8_release_1 rfl rfl ?_
    refine g_iload_n (q := 3) dX8_release_2 rfl rfl ?_
    refine gb_callV (q := 6) (j := 0) (i := 0) dX8_release_3 rfl kv_X8_164 (c8_tag0 hs hd.2.2.2.1.2 hk9 hS hD (w_pick3 hB.1 0 3 5 rfl rfl rfl (by decide) (by decide) (by decide))) rfl (by decide) hB rfl rfl rfl rfl (bz_le rfl) (by decide) (by decide) (fun r g1 hQ => ?_)
    obtain ⟨rfl, hg⟩ := hQ
    have hg := hg.symm
    subst hg
    refine g_aload_n (q := 7) dX8_release_6 rfl rfl ?_
    refine gb_getf (q := 10) (j := 0) (i := 0) dX8_release_7 rfl fl_X8_33 hB rfl rfl rfl rfl ?_
    refine g_iload_n (q := 11) dX8_release_10 rfl rfl ?_
    refine gb_callV (q := 14) (j := 5) (i := 0) dX8_release_11 rfl kv_X8_119 (c_portOf0 (hB.1.at (j := 5) rfl)) rfl (by decide) hB rfl rfl rfl rfl (bz_le rfl) (by decide) (by decide) (fun r g1 hQ => ?_)
    obtain ⟨rfl, hg⟩ := hQ
    have hg := hg.symm
    subst hg
    refine gb_getf (q := 17) (j := 5) (i := 1) dX8_release_14 rfl fl_X8_167 hB rfl rfl rfl rfl ?_
    refine g_astore_n (q := 18) rfl dX8_release_17 rfl (by decide) rfl ?_
    refine g_aload_n (q := 19) dX8_release_18 rfl rfl ?_
    refine g_iload_n (q := 20) dX8_release_19 rfl rfl ?_
    refine gb_callV (q := 23) (j := 5) (i := 8) dX8_release_20 rfl kv_X8_171 (c_stateOf (t := t) ht8 ((hB.1.at (j := 5) rfl).sub 8 rfl)) rfl (by decide) hB rfl rfl rfl rfl (bz_le rfl) (by decide) (by decide) (fun r g1 hQ => ?_)
    obtain ⟨rfl, hg⟩ := hQ
    have hg := hg.symm
    subst hg
    refine g_eqi (v := nI (A.s.2.1.2.2.1.1 t)) (hS.2.1.2.2.2.2.2.2.1.1 t ht8).1 ?_
    have hb : A.s.2.1.2.2.1.1 t ≠ 2 := hb
    have h2 : A.s.2.1.2.2.1.1 t ≤ 2 := h2
    refine g_iconst (q := 24) (v := (nI 2)) dX8_release_23 rfl (by decide) ?_
    refine g_icmpN_eq (q := 27) (t := 37) dX8_release_24 rfl (by decide) (by omega) (by omega) (fun c => absurd c (by omega)) (fun _ => ?_)
    exact g_throw (is := 255) (tx := "the tag is not complete") (i := 23) hl rfl (by decide +kernel) (by decide) tx_ISE xk_ISE (by decide +kernel) (bz_le rfl) dX8_release_27 dX8_release_30 dX8_release_31 dX8_release_33 dX8_release_36
  · have ht8 : t < 8 := by have h4 := hd.2.2.2.1.2; omega
    refine g_aload_n (q := 1) dX8_release_0 rfl rfl ?_
    refine g_iload_n (q := 2) dX8_release_1 rfl rfl ?_
    refine g_iload_n (q := 3) dX8_release_2 rfl rfl ?_
    refine gb_callV (q := 6) (j := 0) (i := 0) dX8_release_3 rfl kv_X8_164 (c8_tag0 hs hd.2.2.2.1.2 hk9 hS hD (w_pick3 hB.1 0 3 5 rfl rfl rfl (by decide) (by decide) (by decide))) rfl (by decide) hB rfl rfl rfl rfl (bz_le rfl) (by decide) (by decide) (fun r g1 hQ => ?_)
    obtain ⟨rfl, hg⟩ := hQ
    have hg := hg.symm
    subst hg
    refine g_aload_n (q := 7) dX8_release_6 rfl rfl ?_
    refine gb_getf (q := 10) (j := 0) (i := 0) dX8_release_7 rfl fl_X8_33 hB rfl rfl rfl rfl ?_
    refine g_iload_n (q := 11) dX8_release_10 rfl rfl ?_
    refine gb_callV (q := 14) (j := 5) (i := 0) dX8_release_11 rfl kv_X8_119 (c_portOf1 (hB.1.at (j := 5) rfl)) rfl (by decide) hB rfl rfl rfl rfl (bz_le rfl) (by decide) (by decide) (fun r g1 hQ => ?_)
    obtain ⟨rfl, hg⟩ := hQ
    have hg := hg.symm
    subst hg
    refine gb_getf (q := 17) (j := 5) (i := 14) dX8_release_14 rfl fl_X8_167 hB rfl rfl rfl rfl ?_
    refine g_astore_n (q := 18) rfl dX8_release_17 rfl (by decide) rfl ?_
    refine g_aload_n (q := 19) dX8_release_18 rfl rfl ?_
    refine g_iload_n (q := 20) dX8_release_19 rfl rfl ?_
    refine gb_callV (q := 23) (j := 5) (i := 21) dX8_release_20 rfl kv_X8_171 (c_stateOf (t := t) ht8 ((hB.1.at (j := 5) rfl).sub 21 rfl)) rfl (by decide) hB rfl rfl rfl rfl (bz_le rfl) (by decide) (by decide) (fun r g1 hQ => ?_)
    obtain ⟨rfl, hg⟩ := hQ
    have hg := hg.symm
    subst hg
    refine g_eqi (v := nI (A.s.2.2.2.2.1.1 t)) (hS.2.2.2.2.2.2.2.2.1.1 t ht8).1 ?_
    have hb : A.s.2.2.2.2.1.1 t ≠ 2 := hb
    have h2 : A.s.2.2.2.2.1.1 t ≤ 2 := h2
    refine g_iconst (q := 24) (v := (nI 2)) dX8_release_23 rfl (by decide) ?_
    refine g_icmpN_eq (q := 27) (t := 37) dX8_release_24 rfl (by decide) (by omega) (by omega) (fun c => absurd c (by omega)) (fun _ => ?_)
    exact g_throw (is := 255) (tx := "the tag is not complete") (i := 23) hl rfl (by decide +kernel) (by decide) tx_ISE xk_ISE (by decide +kernel) (bz_le rfl) dX8_release_27 dX8_release_30 dX8_release_31 dX8_release_33 dX8_release_36
set_option maxRecDepth 20000 in
set_option maxHeartbeats 1000000 in
theorem c8_release3 {l : Launch} {E : bz_E} {L : List Nat} {g : Nat → va_E} {o : Nat} {A : WA} {v w : Int32} (hl : l.stackTraces = false) (hb : m_bad v 2 = true) (hX : w_X E L g o A) : bz_KX l E mX8_release 8 [.ref o, .int v, .int w] L g x_IOE := by
  refine bz_KX.of (by decide) (bz_le rfl) (fun sz => ?_)
  obtain ⟨R, hW, hk⟩ := hX
  have hB := bz_B.rf hW
  obtain ⟨hn6, hb6, hpq, hT, hD, hS, hnw, hlen, hrg, hs0, hs1⟩ := hk
  show bz_G _ _ _ _ _ _ _ _ _ _ _ _ 0 [(0, .ref o), (1, .int v), (2, .int w)] []
  refine g_aload_n (q := 1) dX8_release_0 rfl rfl ?_
  refine g_iload_n (q := 2) dX8_release_1 rfl rfl ?_
  refine g_iload_n (q := 3) dX8_release_2 rfl rfl ?_
  exact g_callVX dX8_release_3 (by decide +kernel) kv_X8_164 (c8_tag2 hl hb) rfl (by decide) (hW.at (j := 0) rfl 0 _ rfl).1 (hW.at (j := 0) rfl 0 _ rfl).2 rfl (bz_le rfl)
set_option maxRecDepth 20000 in
set_option maxHeartbeats 1000000 in
theorem c8_release2 {l : Launch} {E : bz_E} {L : List Nat} {g : Nat → va_E} {o : Nat} {A : WA} {s : Nat} {w : Int32} (hl : l.stackTraces = false) (hs : s < 2) (hd : d_ok A.D) (hb : m_bad w A.D.2.2.2.2.2.1 = true) (hX : w_X E L g o A) : bz_KX l E mX8_release 8 [.ref o, .int (nI s), .int w] L g x_IOE := by
  refine bz_KX.of (by decide) (bz_le rfl) (fun sz => ?_)
  obtain ⟨R, hW, hk⟩ := hX
  have hB := bz_B.rf hW
  obtain ⟨hn6, hb6, hpq, hT, hD, hS, hnw, hlen, hrg, hs0, hs1⟩ := hk
  show bz_G _ _ _ _ _ _ _ _ _ _ _ _ 0 [(0, .ref o), (1, .int (nI s)), (2, .int w)] []
  refine g_aload_n (q := 1) dX8_release_0 rfl rfl ?_
  refine g_iload_n (q := 2) dX8_release_1 rfl rfl ?_
  refine g_iload_n (q := 3) dX8_release_2 rfl rfl ?_
  exact g_callVX dX8_release_3 (by decide +kernel) kv_X8_164 (c8_tag1 hl hs hd.2.2.2.1.2 hb hS hD (w_pick3 hB.1 0 3 5 rfl rfl rfl (by decide) (by decide) (by decide))) rfl (by decide) (hW.at (j := 0) rfl 0 _ rfl).1 (hW.at (j := 0) rfl 0 _ rfl).2 rfl (bz_le rfl)
