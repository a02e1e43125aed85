/-! the class: parse -/
theorem w_sw {L : List Nat} {g0 g : Nat → va_E} {x0 x1 x2 x3 x4 : Nat × List va_E} {r : bz_L} (h : bz_B L g0 g (x0 :: x1 :: x2 :: x3 :: x4 :: r)) : bz_B L g0 g (x0 :: x1 :: x2 :: x4 :: x3 :: r) := by
  have hp : List.Perm (x0 :: x1 :: x2 :: x3 :: x4 :: r) (x0 :: x1 :: x2 :: x4 :: x3 :: r) := ((List.Perm.swap x4 x3 r).cons x2).cons x1 |>.cons x0
  refine ⟨⟨fun b hb => h.1.1 b (hp.mem_iff.mpr hb), (List.Perm.pairwise_iff (fun h => Or.symm h) hp).mp h.1.2⟩, fun a ha => h.2 a (fun y hy => ha y ?_)⟩
  exact (hp.map _).mem_iff.mp hy

set_option maxRecDepth 20000 in
set_option maxHeartbeats 1000000 in
theorem c8_replacePlan {l : Launch} {E : bz_E} {L : List Nat} {g : Nat → va_E} {o : Nat} {A : WA} {R : WR} {D1 : Pl} (hW : bz_W L g (w_bs E o A R)) (hk : w_ok E o A R) (hD1 : d_rep R.rq D1) : bz_K l E mX8_replacePlan 4 [.ref o] L g (fun r g1 => r = none ∧ ∃ s : Si, w_ws D1 s ∧ w_P E L g o (A.b, A.n, A.er, D1, s, [], none, none) g1) := by
  refine bz_K.of (by decide) (bz_le rfl) (fun sz => ?_)
  have hB := bz_B.rf hW
  obtain ⟨hn6, hb6, hpq, hT, hD, hS, hnw, hlen, hrg, hs0, hs1⟩ := hk
  show bz_G _ _ _ _ _ _ _ _ _ _ _ _ 0 [(0, .ref o)] []
  refine g_aload_n (q := 1) dX8_replacePlan_0 rfl rfl ?_
  refine gb_getf (q := 4) (j := 0) (i := 0) dX8_replacePlan_1 rfl fl_X8_23 hB rfl rfl rfl rfl ?_
  refine g_astore_n (q := 5) rfl dX8_replacePlan_4 rfl (by decide) rfl ?_
  refine g_aload_n (q := 6) dX8_replacePlan_5 rfl rfl ?_
  refine g_aload_n (q := 7) dX8_replacePlan_6 rfl rfl ?_
  refine gb_getf (q := 10) (j := 0) (i := 0) dX8_replacePlan_7 rfl fl_X8_27 hB rfl rfl rfl rfl ?_
  refine gb_putf (q := 13) (j := 0) (i := 0) dX8_replacePlan_10 rfl fp_X8_23 hB rfl rfl rfl (bz_le rfl) rfl rfl (fun g hB => ?_)
  refine g_aload_n (q := 14) dX8_replacePlan_13 rfl rfl ?_
  refine g_aload_n (q := 15) dX8_replacePlan_14 rfl rfl ?_
  refine gb_putf (q := 18) (j := 0) (i := 0) dX8_replacePlan_15 rfl fp_X8_27 hB rfl rfl rfl (bz_le rfl) rfl rfl (fun g hB => ?_)
  refine g_aload_n (q := 19) dX8_replacePlan_18 rfl rfl ?_
  refine gb_getf (q := 22) (j := 0) (i := 0) dX8_replacePlan_19 rfl fl_X8_33 hB rfl rfl rfl rfl ?_
  refine g_aload_n (q := 23) dX8_replacePlan_22 rfl rfl ?_
  refine gb_getf (q := 26) (j := 0) (i := 0) dX8_replacePlan_23 rfl fl_X8_23 hB rfl rfl rfl rfl ?_
  refine gb_callV (q := 29) (j := 5) (i := 0) dX8_replacePlan_26 rfl kv_X8_60 (c_sstart (r0 := R.rS) (hB.1.at (j := 5) rfl) (hB.1.at (j := 4) rfl) (by omega)) rfl (by decide) hB rfl rfl rfl rfl (bz_le rfl) (by decide) (by decide) (fun r g1 hQ => ?_)
  obtain ⟨rfl, h1⟩ := hQ
  have hB := w_B1 (j := 5) hB rfl h1 rfl
  refine g_aload_n (q := 30) dX8_replacePlan_29 rfl rfl ?_
  refine gb_getf (q := 33) (j := 0) (i := 0) dX8_replacePlan_30 rfl fl_X8_43 hB rfl rfl rfl rfl ?_
  refine gb_callV (q := 36) (j := 7) (i := 0) dX8_replacePlan_33 rfl kv_X8_88 (c_forget (hB.1.at (j := 7) rfl)) rfl (by decide) hB rfl rfl rfl rfl (bz_le rfl) (by decide) (by decide) (fun r g1 hQ => ?_)
  obtain ⟨rfl, h1⟩ := hQ
  have hB := w_B1 (j := 7) hB rfl h1 rfl
  refine g_aload_n (q := 37) dX8_replacePlan_36 rfl rfl ?_
  refine g_iconst (q := 38) (v := (nI 0)) dX8_replacePlan_37 rfl (by decide) ?_
  refine gb_putf (q := 41) (j := 0) (i := 0) dX8_replacePlan_38 rfl fp_X8_91 hB rfl rfl rfl (bz_le rfl) rfl rfl (fun g hB => ?_)
  refine g_aload_n (q := 42) dX8_replacePlan_41 rfl rfl ?_
  refine g_iconst (q := 43) (v := (nI 0)) dX8_replacePlan_42 rfl (by decide) ?_
  refine gb_putf (q := 46) (j := 0) (i := 0) dX8_replacePlan_43 rfl fp_X8_95 hB rfl rfl rfl (bz_le rfl) rfl rfl (fun g hB => ?_)
  exact g_vret dX8_replacePlan_46 rfl (⟨rfl, w_gs R.rS R.rq, w_go_ws hD1, w_to (A := (A.b, A.n, A.er, D1, w_gs R.rS R.rq, [], none, none)) (R := (R.q, R.p, R.T, R.rq, R.rp, w_go R.rS R.rq, R.rF, R.nw, R.rB, R.r0, R.r1)) (w_sw hB) ⟨hn6, hb6, hpq.symm.imp (fun h => ⟨h.2, h.1⟩) (fun h => ⟨h.2, h.1⟩), hT, hD1, w_go_rep R.rS R.rq, hnw, bz_le rfl, fun i x hx => absurd hx (by show ¬ (([] : List Si)[i]? = some x); simp), (fun τ h => by cases h), (fun τ h => by cases h)⟩⟩)
set_option maxRecDepth 20000 in
set_option maxHeartbeats 1000000 in
theorem c8_parse2 {l : Launch} {E : bz_E} {L : List Nat} {g : Nat → va_E} {o : Nat} {A : WA} {v : Int32} (hl : l.stackTraces = false) (hb : (if v < nI 0 then (0 : Int32) else if nI A.n < v then 0 else 1) = nI 0) (hX : w_X E L g o A) : bz_KX l E mX8_parse 6 [.ref o, .int v] L g x_IAE := by
  refine bz_KX.of (by decide) (bz_le rfl) (fun sz => ?_)
  obtain ⟨R, hW, hk⟩ := hX
  have hB := bz_B.rf hW
  obtain ⟨hn6, hb6, hpq, hT, hD, hS, hnw, hlen, hrg, hs0, hs1⟩ := hk
  show bz_G _ _ _ _ _ _ _ _ _ _ _ _ 0 [(0, .ref o), (1, .int v)] []
  refine g_iload_n (q := 1) dX8_parse_0 rfl rfl ?_
  refine g_if_lt (q := 4) (t := 12) dX8_parse_1 rfl (by decide) (fun c_1 => ?_) (fun c_1 => ?_)
  · exact g_throw (is := 73) (tx := "no such length") (i := 11) hl rfl (by decide +kernel) (by decide) tx_IAE xk_IAE (by decide +kernel) (bz_le rfl) dX8_parse_12 dX8_parse_15 dX8_parse_16 dX8_parse_18 dX8_parse_21
  · refine g_iload_n (q := 5) dX8_parse_4 rfl rfl ?_
    refine g_aload_n (q := 6) dX8_parse_5 rfl rfl ?_
    refine gb_getf (q := 9) (j := 0) (i := 0) dX8_parse_6 rfl fl_X8_64 hB rfl rfl rfl rfl ?_
    refine g_icmp_le (q := 12) (t := 22) dX8_parse_9 rfl (by decide) (fun c_9 => ?_) (fun c_9 => ?_)
    · exact absurd (((if_neg c_1).symm.trans hb)) (by rw [if_neg (Int32.not_lt.mpr c_9)]; decide)
    · exact g_throw (is := 73) (tx := "no such length") (i := 11) hl rfl (by decide +kernel) (by decide) tx_IAE xk_IAE (by decide +kernel) (bz_le rfl) dX8_parse_12 dX8_parse_15 dX8_parse_16 dX8_parse_18 dX8_parse_21
set_option maxRecDepth 20000 in
set_option maxHeartbeats 1000000 in
theorem c8_parse {l : Launch} {E : bz_E} {L : List Nat} {g : Nat → va_E} {o : Nat} {A : WA} {n : Nat} (hnn : n ≤ A.n) (hX : w_X E L g o A) : bz_K l E mX8_parse 9 [.ref o, .int (nI n)] L g (fun r g1 => (∃ (D1 : Pl) (k1 k2 : Bool) (t1 : Tok), p_all A.b n = .inl (D1, k1, k2, t1) ∧ r = some (.int (nI 0)) ∧ d_ok D1 ∧ ∃ s : Si, w_ws D1 s ∧ w_P E L g o (A.b, 0, -1, D1, s, [], none, none) g1) ∨ ∃ e : Nat × Nat, p_all A.b n = .inr e ∧ r = some (.int (nI e.1)) ∧ w_P E L g o ((A.u_n 0).u_er (nI e.2)) g1) := by
  refine bz_K.of (by decide) (bz_le rfl) (fun sz => ?_)
  obtain ⟨R, hW, hk⟩ := hX
  have hB := bz_B.rf hW
  obtain ⟨hn6, hb6, hpq, hT, hD, hS, hnw, hlen, hrg, hs0, hs1⟩ := hk
  obtain ⟨x0, n9, af, tk, tp, nm, er, ep, hs', ht', f0, pd, pc', op', hT⟩ := hT
  have hW' : bz_W L g (w_bs E o A (R.u_T (b_T E (o + 2) x0 n9 af tk tp nm er ep hs' ht' f0 pd pc' op'))) := by
    rw [← hT]
    exact hW
  have hB := bz_B.rf hW'
  show bz_G _ _ _ _ _ _ _ _ _ _ _ _ 0 [(0, .ref o), (1, .int (nI n))] []
  refine g_iload_n (q := 1) dX8_parse_0 rfl rfl ?_
  refine g_ifN_lt (q := 4) (t := 12) dX8_parse_1 rfl (by decide) (by omega) ?_
  refine g_iload_n (q := 5) dX8_parse_4 rfl rfl ?_
  refine g_aload_n (q := 6) dX8_parse_5 rfl rfl ?_
  refine gb_getf (q := 9) (j := 0) (i := 0) dX8_parse_6 rfl fl_X8_64 hB rfl rfl rfl rfl ?_
  refine g_icmpN_le (q := 12) (t := 22) dX8_parse_9 rfl (by decide) (by omega) (by omega) (fun _ => ?_) (fun c => absurd c (by omega))
  refine g_aload_n (q := 23) dX8_parse_22 rfl rfl ?_
  refine g_iconst (q := 24) (v := (nI 0)) dX8_parse_23 rfl (by decide) ?_
  refine gb_putf (q := 27) (j := 0) (i := 0) dX8_parse_24 rfl fp_X8_64 hB rfl rfl rfl (bz_le rfl) rfl rfl (fun g hB => ?_)
  refine g_aload_n (q := 28) dX8_parse_27 rfl rfl ?_
  refine gb_getf (q := 31) (j := 0) (i := 0) dX8_parse_28 rfl fl_X8_16 hB rfl rfl rfl rfl ?_
  refine g_aload_n (q := 32) dX8_parse_31 rfl rfl ?_
  refine gb_getf (q := 35) (j := 0) (i := 0) dX8_parse_32 rfl fl_X8_27 hB rfl rfl rfl rfl ?_
  refine g_aload_n (q := 36) dX8_parse_35 rfl rfl ?_
  refine gb_getf (q := 39) (j := 0) (i := 0) dX8_parse_36 rfl fl_X8_9 hB rfl rfl rfl rfl ?_
  refine g_iload_n (q := 40) dX8_parse_39 rfl rfl ?_
  refine gb_callV (q := 43) (j := 2) (i := 0) dX8_parse_40 rfl kv_X8_78 (c_describe (o := o + 2) (x := o + 1) (p := R.q) (n := n) (b := A.b) (r0 := R.rq) hb6 (by omega) (Or.inr (by omega)) (w_pick3 hB.1 2 4 1 rfl rfl rfl (by decide) (by decide) (by decide))) rfl (by decide) hB rfl rfl rfl rfl (bz_le rfl) (by decide) (by decide) (fun r g1 hQ => ?_)
  obtain ⟨t9, e9, nm9, ep9, hs9, hy9, pd9, pc9, op9, r9, rfl, h1, hk9, hc⟩ := hQ
  obtain ⟨gm, m1, m2⟩ := bz_B.mid (hB.1.at (j := 2) rfl) (by rfl) h1
  have hB1 := w_B1 (j := 2) hB rfl m1 (by rfl)
  have hB : bz_B _ _ _ (w_bs E o (A.u_n 0) ((R.u_T (b_T E (o + 2) (o + 1) n (kE t9) (kK t9) (kS t9) nm9 (nI e9.1) ep9 hs9 hy9 f0 pd9 pc9 op9)).u_rq r9)) := w_B1 (j := 4) hB1 rfl m2 (by rfl)
  have he5 : e9.1 ≤ 4 := hk9.2.2
  rcases hc with ⟨D1, k1, k2, t1, hp, hc0, hrep, hdo⟩ | ⟨hp, hc0⟩
  · have hfr := hpq
    refine g_istore_n (q := 44) rfl dX8_parse_43 rfl (by decide) rfl ?_
    refine g_iload_n (q := 45) dX8_parse_44 rfl rfl ?_
    refine g_ifN_eq (q := 48) (t := 61) dX8_parse_45 rfl (by decide) (by omega) (fun _ => ?_) (fun c => absurd c (by omega))
    refine g_aload_n (q := 62) dX8_parse_61 rfl rfl ?_
    refine g_iconst (q := 63) (v := (-1)) dX8_parse_62 rfl (by decide) ?_
    refine gb_putf (q := 66) (j := 0) (i := 0) dX8_parse_63 rfl fp_X8_53 hB rfl rfl rfl (bz_le rfl) rfl rfl (fun g hB => ?_)
    refine g_aload_n (q := 67) dX8_parse_66 rfl rfl ?_
    refine gb_callV (q := 70) (j := 0) (i := 0) dX8_parse_67 rfl kv_X8_85 (c8_replacePlan (A := (A.u_n 0).u_er (-1)) (R := (R.u_T (b_T E (o + 2) (o + 1) n (kE t9) (kK t9) (kS t9) nm9 (nI e9.1) ep9 hs9 hy9 f0 pd9 pc9 op9)).u_rq r9) (D1 := D1) hB.1 ⟨bz_le rfl, hb6, hpq, ⟨_, _, _, _, _, _, _, _, _, _, _, _, _, _, rfl⟩, hD, hS, hnw, hlen, hrg, hs0, hs1⟩ hrep) rfl (by decide) hB rfl rfl rfl rfl (bz_le rfl) (by decide) (by decide) (fun r g1 hQ => ?_)
    obtain ⟨rfl, s9, hws9, hP9⟩ := hQ
    have hfr := w_fr (A := (A.u_n 0).u_er (-1)) (R := (R.u_T (b_T E (o + 2) (o + 1) n (kE t9) (kK t9) (kS t9) nm9 (nI e9.1) ep9 hs9 hy9 f0 pd9 pc9 op9)).u_rq r9) ⟨bz_le rfl, hb6, hpq, ⟨_, _, _, _, _, _, _, _, _, _, _, _, _, _, rfl⟩, hD, hS, hnw, hlen, hrg, hs0, hs1⟩ hB.2
    refine g_iload_n (q := 71) dX8_parse_70 rfl rfl ?_
    exact g_iret dX8_parse_71 rfl (Or.inl ⟨D1, k1, k2, t1, hp, congrArg (fun z => some (Value.int (nI z))) hc0, hdo, s9, hws9, ⟨fun a ha => (hP9.1 a ha).trans (hfr a ha), hP9.2⟩⟩)
  · have hfr := hpq
    refine g_istore_n (q := 44) rfl dX8_parse_43 rfl (by decide) rfl ?_
    refine g_iload_n (q := 45) dX8_parse_44 rfl rfl ?_
    refine g_ifN_eq (q := 48) (t := 61) dX8_parse_45 rfl (by decide) (by omega) (fun c => absurd c (by omega)) (fun _ => ?_)
    refine g_aload_n (q := 49) dX8_parse_48 rfl rfl ?_
    refine g_aload_n (q := 50) dX8_parse_49 rfl rfl ?_
    refine gb_getf (q := 53) (j := 0) (i := 0) dX8_parse_50 rfl fl_X8_16 hB rfl rfl rfl rfl ?_
    refine gb_getf (q := 56) (j := 2) (i := 0) dX8_parse_53 rfl fl_X8_82 hB rfl rfl rfl rfl ?_
    refine gb_putf (q := 59) (j := 0) (i := 0) dX8_parse_56 rfl fp_X8_53 hB rfl rfl rfl (bz_le rfl) rfl rfl (fun g hB => ?_)
    refine g_iload_n (q := 60) dX8_parse_59 rfl rfl ?_
    exact g_iret dX8_parse_60 rfl (Or.inr ⟨e9, hp, rfl, w_to (A := (A.u_n 0).u_er (nI e9.2)) (R := (R.u_T (b_T E (o + 2) (o + 1) n (kE t9) (kK t9) (kS t9) nm9 (nI e9.1) ep9 hs9 hy9 f0 pd9 pc9 op9)).u_rq r9) (by rw [show (nI e9.2 : Int32) = ep9 from (hk9.2.1 hc0).symm]; exact hB) ⟨bz_le rfl, hb6, hpq, ⟨_, _, _, _, _, _, _, _, _, _, _, _, _, _, rfl⟩, hD, hS, hnw, hlen, hrg, hs0, hs1⟩⟩)
