/-! the class: post, read, configure, release -/
set_option maxRecDepth 20000 in
set_option maxHeartbeats 1000000 in
theorem c8_post3 {l : Launch} {E : bz_E} {L : List Nat} {g : Nat → va_E} {o : Nat} {v a b c d : Int32} (hl : l.stackTraces = false) (hb : m_bad v 2 = true) : bz_KX l E mX8_post 7 [.ref o, .int v, .int a, .int b, .int c, .int d] L g x_IOE := by
  refine bz_KX.of (by decide) (bz_le rfl) (fun sz => ?_)
  show bz_G _ _ _ _ _ _ _ _ _ _ _ _ 0 [(0, .ref o), (1, .int v), (2, .int a), (3, .int b), (4, .int c), (5, .int d)] []
  refine g_iload_n (q := 1) dX8_post_0 rfl rfl ?_
  exact g_callSX dX8_post_1 (by decide +kernel) ks_X8_116 rfl (c8_checkSide1 hl hb) (by decide) rfl (bz_le rfl)
set_option maxRecDepth 20000 in
set_option maxHeartbeats 1000000 in
theorem c8_post2 {l : Launch} {E : bz_E} {L : List Nat} {g : Nat → va_E} {o s : Nat} {v w c d : Int32} (hl : l.stackTraces = false) (hs : s < 2) (hb : m_bad v 16 = true ∨ (if w < nI 1 then (0 : Int32) else if nI 4 < w then 0 else 1) = nI 0 ∨ ∃ a b : Nat, v = nI a ∧ w = nI b ∧ a < 16 ∧ b ≤ 4 ∧ 16 < a + b) : bz_KX l E mX8_post 7 [.ref o, .int (nI s), .int v, .int w, .int c, .int d] L g x_IAE := by
  refine bz_KX.of (by decide) (bz_le rfl) (fun sz => ?_)
  show bz_G _ _ _ _ _ _ _ _ _ _ _ _ 0 [(0, .ref o), (1, .int (nI s)), (2, .int v), (3, .int w), (4, .int c), (5, .int d)] []
  refine g_iload_n (q := 1) dX8_post_0 rfl rfl ?_
  refine g_callS (q := 4) dX8_post_1 rfl ks_X8_116 rfl (c8_checkSide0 hs) (by decide) rfl (bz_le rfl) (by decide) (by decide) (fun r g1 hQ => ?_)
  obtain ⟨rfl, hg⟩ := hQ
  have hg := hg.symm
  subst hg
  refine g_iload_n (q := 5) dX8_post_4 rfl rfl ?_
  refine g_iload_n (q := 6) dX8_post_5 rfl rfl ?_
  exact g_callSX dX8_post_6 (by decide +kernel) ks_X8_236 rfl (c8_range1 hl hb) (by decide) rfl (bz_le rfl)
set_option maxRecDepth 20000 in
set_option maxHeartbeats 1000000 in
theorem c8_post1 {l : Launch} {E : bz_E} {L : List Nat} {g : Nat → va_E} {o : Nat} {A : WA} {s ad wd : Nat} {v : Int32} {rx : Bool} (hl : l.stackTraces = false) (hs : s < 2) (hd : d_ok A.D) (hw : 1 ≤ wd ∧ wd ≤ 4) (ha : ad + wd ≤ 16) (hlt : A.D.1 (s * 4 + 0) ≤ s_cnt 0 (s_sd s A.s).1) (hX : w_X E L g o A) : bz_KX l E mX8_post 7 [.ref o, .int (nI s), .int (nI ad), .int (nI wd), .int v, .int (tB rx)] L g x_ISE := by
  refine bz_KX.of (by decide) (bz_le rfl) (fun sz => ?_)
  obtain ⟨R, hW, hk⟩ := hX
  have hB := bz_B.rf hW
  obtain ⟨hn6, hb6, hpq, hT, hD, hS, hnw, hlen, hrg, hs0, hs1⟩ := hk
  show bz_G _ _ _ _ _ _ _ _ _ _ _ _ 0 [(0, .ref o), (1, .int (nI s)), (2, .int (nI ad)), (3, .int (nI wd)), (4, .int v), (5, .int (tB rx))] []
  refine g_iload_n (q := 1) dX8_post_0 rfl rfl ?_
  refine g_callS (q := 4) dX8_post_1 rfl ks_X8_116 rfl (c8_checkSide0 hs) (by decide) rfl (bz_le rfl) (by decide) (by decide) (fun r g1 hQ => ?_)
  obtain ⟨rfl, hg⟩ := hQ
  have hg := hg.symm
  subst hg
  refine g_iload_n (q := 5) dX8_post_4 rfl rfl ?_
  refine g_iload_n (q := 6) dX8_post_5 rfl rfl ?_
  refine g_callS (q := 9) dX8_post_6 rfl ks_X8_236 rfl (c8_range0 (by omega) hw ha) (by decide) rfl (bz_le rfl) (by decide) (by decide) (fun r g1 hQ => ?_)
  obtain ⟨rfl, hg⟩ := hQ
  have hg := hg.symm
  subst hg
  refine g_aload_n (q := 10) dX8_post_9 rfl rfl ?_
  refine g_iload_n (q := 11) dX8_post_10 rfl rfl ?_
  refine g_iconst (q := 12) (v := (nI 0)) dX8_post_11 rfl (by decide) ?_
  exact g_callVX dX8_post_12 (by decide +kernel) kv_X8_239 (c8_room1 (k := 0) hl hs (by decide) (fun k hk => (hd.1 k hk).2.1) hlt hS hD (w_pick3 hB.1 0 3 5 rfl rfl rfl (by decide) (by decide) (by decide))) rfl (by decide) (hW.at (j := 0) rfl 0 _ rfl).1 (hW.at (j := 0) rfl 0 _ rfl).2 rfl (bz_le rfl)
theorem w_l32 {P : List Tx} {k : Nat} (h : s_lok P) (hk : k < 4) (hc : s_cnt k P < 8) : P.length < 32 := by
  have h4 : P.length = s_cnt 0 P + s_cnt 1 P + s_cnt 2 P + s_cnt 3 P := by
    have hk : ∀ y ∈ P, tK y < 4 := fun y hy => (h.1 y hy).1
    clear h hc
    induction P with
    | nil => rfl
    | cons x r ih =>
      have := ih (fun y hy => hk y (List.mem_cons_of_mem _ hy))
      have hx := hk x List.mem_cons_self
      unfold s_cnt at this ⊢
      rw [List.length_cons, List.countP_cons, List.countP_cons, List.countP_cons, List.countP_cons, this]
      rcases (show tK x = 0 ∨ tK x = 1 ∨ tK x = 2 ∨ tK x = 3 by omega) with e | e | e | e <;> rw [e] <;> simp <;> omega
  have h0 := h.2 0 (by decide)
  have h1 := h.2 1 (by decide)
  have h2 := h.2 2 (by decide)
  have h3 := h.2 3 (by decide)
  rcases (show k = 0 ∨ k = 1 ∨ k = 2 ∨ k = 3 by omega) with rfl | rfl | rfl | rfl <;> omega
theorem w_rb (rx : Bool) : tB rx = 0 ∨ tB rx = 1 := by cases rx with | false => exact Or.inl rfl | true => exact Or.inr rfl

theorem w_oke {k t ad wd now : Nat} {rx : Bool} {vs : List Int32} (hk : k = 0 ∧ t = 0 ∨ k = 2 ∧ t < 8) (hv : vs.length = wd) (hw : wd ≤ 4) (ha : ad + wd ≤ 16) (hn : now < 100000) : s_ok (s_ent k t rx ad wd now vs) :=
  ⟨show k < 4 by omega, show t < 8 by omega, ha, hw, hn, bz_le rfl, show vs.length ≤ 4 by omega, fun _ => hv, fun h => absurd (show k = 3 from h) (by omega), fun h => absurd (show k = 1 from h) (by omega)⟩

set_option maxRecDepth 20000 in
set_option maxHeartbeats 1000000 in
theorem c8_post0 {l : Launch} {E : bz_E} {L : List Nat} {g : Nat → va_E} {o : Nat} {A : WA} {s ad wd : Nat} {v : Int32} {rx : Bool} (hs : s < 2) (hd : d_ok A.D) (hnow : A.s.1 < 100000) (hw : 1 ≤ wd ∧ wd ≤ 4) (ha : ad + wd ≤ 16) (hlt : s_cnt 0 (s_sd s A.s).1 < A.D.1 (s * 4 + 0)) (hX : w_X E L g o A) : bz_K l E mX8_post 5 [.ref o, .int (nI s), .int (nI ad), .int (nI wd), .int v, .int (tB rx)] L g (fun r g1 => r = some (.int (nI ((s_sd s A.s).1.length + 1))) ∧ ∃ τ : Si, s_like A.s τ ∧ w_P E L g o ((A.u_hs (s_kp A.hs τ)).u_s (s_pt s A.s ((s_sd s A.s).1 ++ [s_ent 0 0 rx ad wd A.s.1 (s_vals v wd)], (s_sd s A.s).2))) g1) := by
  refine bz_K.of (by decide) (bz_le rfl) (fun sz => ?_)
  obtain ⟨R, hW, hk⟩ := hX
  have hB := bz_B.rf hW
  obtain ⟨hn6, hb6, hpq, hT, hD, hS, hnw, hlen, hrg, hs0, hs1⟩ := id hk
  show bz_G _ _ _ _ _ _ _ _ _ _ _ _ 0 [(0, .ref o), (1, .int (nI s)), (2, .int (nI ad)), (3, .int (nI wd)), (4, .int v), (5, .int (tB rx))] []
  rcases (show s = 0 ∨ s = 1 by omega) with rfl | rfl
  · have hlt : s_cnt 0 A.s.2.1.1 < A.D.1 (0 * 4 + 0) := hlt
    have hD8 := (hd.1 (0 * 4 + 0) (by decide)).2.1
    have hl32 : A.s.2.1.1.length < 32 := w_l32 hS.2.1.2.2.1 (k := 0) (by decide) (by omega)
    refine g_iload_n (q := 1) dX8_post_0 rfl rfl ?_
    refine g_callS (q := 4) dX8_post_1 rfl ks_X8_116 rfl (c8_checkSide0 hs) (by decide) rfl (bz_le rfl) (by decide) (by decide) (fun r g1 hQ => ?_)
    obtain ⟨rfl, hg⟩ := hQ
    have hg := hg.symm
    subst hg
    refine g_iload_n (q := 5) dX8_post_4 rfl rfl ?_
    refine g_iload_n (q := 6) dX8_post_5 rfl rfl ?_
    refine g_callS (q := 9) dX8_post_6 rfl ks_X8_236 rfl (c8_range0 (by omega) hw ha) (by decide) rfl (bz_le rfl) (by decide) (by decide) (fun r g1 hQ => ?_)
    obtain ⟨rfl, hg⟩ := hQ
    have hg := hg.symm
    subst hg
    refine g_aload_n (q := 10) dX8_post_9 rfl rfl ?_
    refine g_iload_n (q := 11) dX8_post_10 rfl rfl ?_
    refine g_iconst (q := 12) (v := (nI 0)) dX8_post_11 rfl (by decide) ?_
    refine gb_callV (q := 15) (j := 0) (i := 0) dX8_post_12 rfl kv_X8_239 (c8_room0 (k := 0) hs (by decide) (fun k hk => (hd.1 k hk).2.1) hlt hS hD (w_pick3 hB.1 0 3 5 rfl rfl rfl (by decide) (by decide) (by decide))) rfl (by decide) hB rfl rfl rfl rfl (bz_le rfl) (by decide) (by decide) (fun r g1 hQ => ?_)
    obtain ⟨rfl, hg⟩ := hQ
    have hg := hg.symm
    subst hg
    refine g_aload_n (q := 16) dX8_post_15 rfl rfl ?_
    refine gb_getf (q := 19) (j := 0) (i := 0) dX8_post_16 rfl fl_X8_43 hB rfl rfl rfl rfl ?_
    refine g_aload_n (q := 20) dX8_post_19 rfl rfl ?_
    refine gb_getf (q := 23) (j := 0) (i := 0) dX8_post_20 rfl fl_X8_33 hB rfl rfl rfl rfl ?_
    refine gb_callV (q := 26) (j := 7) (i := 0) dX8_post_23 rfl kv_X8_230 (c_remember (o := o + 81) (y := o + 27) (n := R.nw) (ct := A.hs.length) (r0 := R.rB (s_nx R.nw)) (r2 := R.rS) (σ := A.s) hnw hlen (h_f_at (s_nx_lt _)) hS (w_pick3 hB.1 7 (8 + s_nx R.nw) 5 rfl (w_bs_at (s_nx_lt _)) rfl (by omega) (by decide) (by omega))) rfl (by decide) hB rfl rfl rfl rfl (bz_le rfl) (by decide) (by decide) (fun r g1 hQ => ?_)
    obtain ⟨rfl, h1⟩ := hQ
    obtain ⟨τ, nw1, rB1, hlk, hB, hk1⟩ := w_rem hW hk h1
    obtain ⟨hn6, hb6, hpq, hT, hD, hS, hnw, hlen, hrg, hs0, hs1⟩ := hk1
    refine g_aload_n (q := 27) dX8_post_26 rfl rfl ?_
    refine gb_getf (q := 30) (j := 0) (i := 0) dX8_post_27 rfl fl_X8_33 hB rfl rfl rfl rfl ?_
    refine g_iload_n (q := 31) dX8_post_30 rfl rfl ?_
    refine gb_callV (q := 34) (j := 5) (i := 0) dX8_post_31 rfl kv_X8_119 (c_portOf0 (hB.1.at (j := 5) rfl)) rfl (by decide) hB rfl rfl rfl rfl (bz_le rfl) (by decide) (by decide) (fun r g1 hQ => ?_)
    obtain ⟨rfl, hg⟩ := hQ
    have hg := hg.symm
    subst hg
    refine gb_getf (q := 37) (j := 5) (i := 1) dX8_post_34 rfl fl_X8_123 hB rfl rfl rfl rfl ?_
    refine g_astore (q := 39) dX8_post_37 rfl (by decide) rfl ?_
    refine g_aload (q := 41) dX8_post_39 rfl rfl ?_
    refine g_iconst (q := 42) (v := (nI 0)) dX8_post_41 rfl (by decide) ?_
    refine g_iconst (q := 43) (v := (-1)) dX8_post_42 rfl (by decide) ?_
    refine g_iload (q := 45) dX8_post_43 rfl rfl ?_
    refine g_iload_n (q := 46) dX8_post_45 rfl rfl ?_
    refine g_iload_n (q := 47) dX8_post_46 rfl rfl ?_
    refine g_aload_n (q := 48) dX8_post_47 rfl rfl ?_
    refine gb_getf (q := 51) (j := 0) (i := 0) dX8_post_48 rfl fl_X8_33 hB rfl rfl rfl rfl ?_
    refine gb_getf (q := 54) (j := 5) (i := 0) dX8_post_51 rfl fl_X8_98 hB rfl rfl rfl rfl ?_
    refine g_eqi (v := nI (A.s.1)) (hS.1) ?_
    refine gb_callV (q := 57) (j := 5) (i := 2) dX8_post_54 rfl kv_X8_242 (c_open (n := A.s.2.1.1.length) (k := 0) (f := R.rS.2.2.1.1) (c := R.rS.2.2.1.2.1) hl32 (by decide) (w_rb rx) (show bz_H _ _ (o + 27 + 2) (b_Line E (o + 27 + 2) R.rS.2.2.1.1 R.rS.2.2.1.2.1 (nI A.s.2.1.1.length)) from by rw [← hS.2.1.2.1]; exact (hB.1.at (j := 5) rfl).sub 2 rfl)) rfl (by decide) hB rfl rfl rfl rfl (bz_le rfl) (by decide) (by decide) (fun r g1 hQ => ?_)
    obtain ⟨rfl, h1⟩ := hQ
    have hB : bz_B _ _ _ (w_bs E o (A.u_hs (s_kp A.hs τ)) (((R.u_nw nw1).u_rB rB1).u_rS (R.rS.1, R.rS.2.1, ((v_open R.rS.2.2.1.1 A.s.2.1.1.length 0 (-1) (tB rx) (nI ad) (nI wd) (nI A.s.1)), (upd R.rS.2.2.1.2.1 0 (R.rS.2.2.1.2.1 0 + nI 1)), nI (A.s.2.1.1.length + 1), R.rS.2.2.1.2.2.2), R.rS.2.2.2))) := hB.sp (j := 5) rfl 2 rfl h1 (bz_le rfl)
    refine g_istore (q := 59) dX8_post_57 rfl (by decide) rfl ?_
    refine g_aload (q := 61) dX8_post_59 rfl rfl ?_
    refine g_iload (q := 63) dX8_post_61 rfl rfl ?_
    refine g_iload (q := 65) dX8_post_63 rfl rfl ?_
    refine gb_callV (q := 68) (j := 5) (i := 2) dX8_post_65 rfl kv_X8_246 (c_putValues (p := A.s.2.1.1.length) hl32 ((hB.1.at (j := 5) rfl).sub 2 rfl)) rfl (by decide) hB rfl rfl rfl rfl (bz_le rfl) (by decide) (by decide) (fun r g1 hQ => ?_)
    obtain ⟨rfl, h1⟩ := hQ
    have hB : bz_B _ _ _ (w_bs E o (A.u_hs (s_kp A.hs τ)) (((R.u_nw nw1).u_rB rB1).u_rS (R.rS.1, R.rS.2.1, (v_vals (v_open R.rS.2.2.1.1 A.s.2.1.1.length 0 (-1) (tB rx) (nI ad) (nI wd) (nI A.s.1)) A.s.2.1.1.length v, (upd R.rS.2.2.1.2.1 0 (R.rS.2.2.1.2.1 0 + nI 1)), nI (A.s.2.1.1.length + 1), R.rS.2.2.1.2.2.2), R.rS.2.2.2))) := hB.sp (j := 5) rfl 2 rfl h1 (bz_le rfl)
    refine g_aload (q := 70) dX8_post_68 rfl rfl ?_
    refine gb_getf (q := 73) (j := 5) (i := 2) dX8_post_70 rfl fl_X8_129 hB rfl rfl rfl rfl ?_
    exact g_iret dX8_post_73 rfl (⟨rfl, τ, hlk, w_to (A := (A.u_hs (s_kp A.hs τ)).u_s (s_pt 0 A.s (A.s.2.1.1 ++ [s_ent 0 0 rx ad wd A.s.1 (s_vals v wd)], A.s.2.1.2))) (R := (((R.u_nw nw1).u_rB rB1).u_rS (R.rS.1, R.rS.2.1, (v_vals (v_open R.rS.2.2.1.1 A.s.2.1.1.length 0 (-1) (tB rx) (nI ad) (nI wd) (nI A.s.1)) A.s.2.1.1.length v, (upd R.rS.2.2.1.2.1 0 (R.rS.2.2.1.2.1 0 + nI 1)), nI (A.s.2.1.1.length + 1), R.rS.2.2.1.2.2.2), R.rS.2.2.2))) hB ⟨hn6, hb6, hpq, hT, hD, ⟨hS.1, w_que hS.2.1 (w_txv (k := 0) (t := 0) hw.2) (w_oke (Or.inl ⟨rfl, rfl⟩) (w_vals_len v wd) hw.2 ha hnow) (show s_cnt 0 A.s.2.1.1 < 8 by omega) (fun j hj => (w_vv_lo hj).trans (w_op_lo hj)) w_upc, hS.2.2⟩, hnw, hlen, hrg, hs0, hs1⟩⟩)
  · have hlt : s_cnt 0 A.s.2.2.1 < A.D.1 (1 * 4 + 0) := hlt
    have hD8 := (hd.1 (1 * 4 + 0) (by decide)).2.1
    have hl32 : A.s.2.2.1.length < 32 := w_l32 hS.2.2.2.2.1 (k := 0) (by decide) (by omega)
    refine g_iload_n (q := 1) dX8_post_0 rfl rfl ?_
    refine g_callS (q := 4) dX8_post_1 rfl ks_X8_116 rfl (c8_checkSide0 hs) (by decide) rfl (bz_le rfl) (by decide) (by decide) (fun r g1 hQ => ?_)
    obtain ⟨rfl, hg⟩ := hQ
    have hg := hg.symm
    subst hg
    refine g_iload_n (q := 5) dX8_post_4 rfl rfl ?_
    refine g_iload_n (q := 6) dX8_post_5 rfl rfl ?_
    refine g_callS (q := 9) dX8_post_6 rfl ks_X8_236 rfl (c8_range0 (by omega) hw ha) (by decide) rfl (bz_le rfl) (by decide) (by decide) (fun r g1 hQ => ?_)
    obtain ⟨rfl, hg⟩ := hQ
    have hg := hg.symm
    subst hg
    refine g_aload_n (q := 10) dX8_post_9 rfl rfl ?_
    refine g_iload_n (q := 11) dX8_post_10 rfl rfl ?_
    refine g_iconst (q := 12) (v := (nI 0)) dX8_post_11 rfl (by decide) ?_
    refine gb_callV (q := 15) (j := 0) (i := 0) dX8_post_12 rfl kv_X8_239 (c8_room0 (k := 0) hs (by decide) (fun k hk => (hd.1 k hk).2.1) hlt hS hD (w_pick3 hB.1 0 3 5 rfl rfl rfl (by decide) (by decide) (by decide))) rfl (by decide) hB rfl rfl rfl rfl (bz_le rfl) (by decide) (by decide) (fun r g1 hQ => ?_)
    obtain ⟨rfl, hg⟩ := hQ
    have hg := hg.symm
    subst hg
    refine g_aload_n (q := 16) dX8_post_15 rfl rfl ?_
    refine gb_getf (q := 19) (j := 0) (i := 0) dX8_post_16 rfl fl_X8_43 hB rfl rfl rfl rfl ?_
    refine g_aload_n (q := 20) dX8_post_19 rfl rfl ?_
    refine gb_getf (q := 23) (j := 0) (i := 0) dX8_post_20 rfl fl_X8_33 hB rfl rfl rfl rfl ?_
    refine gb_callV (q := 26) (j := 7) (i := 0) dX8_post_23 rfl kv_X8_230 (c_remember (o := o + 81) (y := o + 27) (n := R.nw) (ct := A.hs.length) (r0 := R.rB (s_nx R.nw)) (r2 := R.rS) (σ := A.s) hnw hlen (h_f_at (s_nx_lt _)) hS (w_pick3 hB.1 7 (8 + s_nx R.nw) 5 rfl (w_bs_at (s_nx_lt _)) rfl (by omega) (by decide) (by omega))) rfl (by decide) hB rfl rfl rfl rfl (bz_le rfl) (by decide) (by decide) (fun r g1 hQ => ?_)
    obtain ⟨rfl, h1⟩ := hQ
    obtain ⟨τ, nw1, rB1, hlk, hB, hk1⟩ := w_rem hW hk h1
    obtain ⟨hn6, hb6, hpq, hT, hD, hS, hnw, hlen, hrg, hs0, hs1⟩ := hk1
    refine g_aload_n (q := 27) dX8_post_26 rfl rfl ?_
    refine gb_getf (q := 30) (j := 0) (i := 0) dX8_post_27 rfl fl_X8_33 hB rfl rfl rfl rfl ?_
    refine g_iload_n (q := 31) dX8_post_30 rfl rfl ?_
    refine gb_callV (q := 34) (j := 5) (i := 0) dX8_post_31 rfl kv_X8_119 (c_portOf1 (hB.1.at (j := 5) rfl)) rfl (by decide) hB rfl rfl rfl rfl (bz_le rfl) (by decide) (by decide) (fun r g1 hQ => ?_)
    obtain ⟨rfl, hg⟩ := hQ
    have hg := hg.symm
    subst hg
    refine gb_getf (q := 37) (j := 5) (i := 14) dX8_post_34 rfl fl_X8_123 hB rfl rfl rfl rfl ?_
    refine g_astore (q := 39) dX8_post_37 rfl (by decide) rfl ?_
    refine g_aload (q := 41) dX8_post_39 rfl rfl ?_
    refine g_iconst (q := 42) (v := (nI 0)) dX8_post_41 rfl (by decide) ?_
    refine g_iconst (q := 43) (v := (-1)) dX8_post_42 rfl (by decide) ?_
    refine g_iload (q := 45) dX8_post_43 rfl rfl ?_
    refine g_iload_n (q := 46) dX8_post_45 rfl rfl ?_
    refine g_iload_n (q := 47) dX8_post_46 rfl rfl ?_
    refine g_aload_n (q := 48) dX8_post_47 rfl rfl ?_
    refine gb_getf (q := 51) (j := 0) (i := 0) dX8_post_48 rfl fl_X8_33 hB rfl rfl rfl rfl ?_
    refine gb_getf (q := 54) (j := 5) (i := 0) dX8_post_51 rfl fl_X8_98 hB rfl rfl rfl rfl ?_
    refine g_eqi (v := nI (A.s.1)) (hS.1) ?_
    refine gb_callV (q := 57) (j := 5) (i := 15) dX8_post_54 rfl kv_X8_242 (c_open (n := A.s.2.2.1.length) (k := 0) (f := R.rS.2.2.2.1) (c := R.rS.2.2.2.2.1) hl32 (by decide) (w_rb rx) (show bz_H _ _ (o + 27 + 15) (b_Line E (o + 27 + 15) R.rS.2.2.2.1 R.rS.2.2.2.2.1 (nI A.s.2.2.1.length)) from by rw [← hS.2.2.2.1]; exact (hB.1.at (j := 5) rfl).sub 15 rfl)) rfl (by decide) hB rfl rfl rfl rfl (bz_le rfl) (by decide) (by decide) (fun r g1 hQ => ?_)
    obtain ⟨rfl, h1⟩ := hQ
    have hB : bz_B _ _ _ (w_bs E o (A.u_hs (s_kp A.hs τ)) (((R.u_nw nw1).u_rB rB1).u_rS (R.rS.1, R.rS.2.1, R.rS.2.2.1, ((v_open R.rS.2.2.2.1 A.s.2.2.1.length 0 (-1) (tB rx) (nI ad) (nI wd) (nI A.s.1)), (upd R.rS.2.2.2.2.1 0 (R.rS.2.2.2.2.1 0 + nI 1)), nI (A.s.2.2.1.length + 1), R.rS.2.2.2.2.2.2)))) := hB.sp (j := 5) rfl 15 rfl h1 (bz_le rfl)
    refine g_istore (q := 59) dX8_post_57 rfl (by decide) rfl ?_
    refine g_aload (q := 61) dX8_post_59 rfl rfl ?_
    refine g_iload (q := 63) dX8_post_61 rfl rfl ?_
    refine g_iload (q := 65) dX8_post_63 rfl rfl ?_
    refine gb_callV (q := 68) (j := 5) (i := 15) dX8_post_65 rfl kv_X8_246 (c_putValues (p := A.s.2.2.1.length) hl32 ((hB.1.at (j := 5) rfl).sub 15 rfl)) rfl (by decide) hB rfl rfl rfl rfl (bz_le rfl) (by decide) (by decide) (fun r g1 hQ => ?_)
    obtain ⟨rfl, h1⟩ := hQ
    have hB : bz_B _ _ _ (w_bs E o (A.u_hs (s_kp A.hs τ)) (((R.u_nw nw1).u_rB rB1).u_rS (R.rS.1, R.rS.2.1, R.rS.2.2.1, (v_vals (v_open R.rS.2.2.2.1 A.s.2.2.1.length 0 (-1) (tB rx) (nI ad) (nI wd) (nI A.s.1)) A.s.2.2.1.length v, (upd R.rS.2.2.2.2.1 0 (R.rS.2.2.2.2.1 0 + nI 1)), nI (A.s.2.2.1.length + 1), R.rS.2.2.2.2.2.2)))) := hB.sp (j := 5) rfl 15 rfl h1 (bz_le rfl)
    refine g_aload (q := 70) dX8_post_68 rfl rfl ?_
    refine gb_getf (q := 73) (j := 5) (i := 15) dX8_post_70 rfl fl_X8_129 hB rfl rfl rfl rfl ?_
    exact g_iret dX8_post_73 rfl (⟨rfl, τ, hlk, w_to (A := (A.u_hs (s_kp A.hs τ)).u_s (s_pt 1 A.s (A.s.2.2.1 ++ [s_ent 0 0 rx ad wd A.s.1 (s_vals v wd)], A.s.2.2.2))) (R := (((R.u_nw nw1).u_rB rB1).u_rS (R.rS.1, R.rS.2.1, R.rS.2.2.1, (v_vals (v_open R.rS.2.2.2.1 A.s.2.2.1.length 0 (-1) (tB rx) (nI ad) (nI wd) (nI A.s.1)) A.s.2.2.1.length v, (upd R.rS.2.2.2.2.1 0 (R.rS.2.2.2.2.1 0 + nI 1)), nI (A.s.2.2.1.length + 1), R.rS.2.2.2.2.2.2)))) hB ⟨hn6, hb6, hpq, hT, hD, ⟨hS.1, hS.2.1, w_que hS.2.2 (w_txv (k := 0) (t := 0) hw.2) (w_oke (Or.inl ⟨rfl, rfl⟩) (w_vals_len v wd) hw.2 ha hnow) (show s_cnt 0 A.s.2.2.1 < 8 by omega) (fun j hj => (w_vv_lo hj).trans (w_op_lo hj)) w_upc⟩, hnw, hlen, hrg, hs0, hs1⟩⟩)
