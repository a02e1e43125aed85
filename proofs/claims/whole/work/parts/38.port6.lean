/-! class Port: start, forwardTo -/
theorem bz_W.cons {L : List Nat} {g : Nat → va_E} {o : Nat} {es : List va_E} {bs : bz_L} (h : bz_H L g o es) (hW : bz_W L g bs) (hd : ∀ b ∈ bs, o + es.length ≤ b.1 ∨ b.1 + b.2.length ≤ o) : bz_W L g ((o, es) :: bs) := by
  refine ⟨fun b hb => ?_, List.pairwise_cons.mpr ⟨fun b hb => hd b hb, hW.2⟩⟩
  rcases List.mem_cons.mp hb with rfl | hb
  · exact h
  · exact hW.1 b hb
def v_ms (m h : Nat → Int32) (i : Nat) : Nat → Int32 := fun k => if k < i then h k else m k
theorem v_msS {m h : Nat → Int32} {i : Nat} : upd (v_ms m h i) i (h i) = v_ms m h (i + 1) := by
  funext k
  by_cases e : k = i
  · subst e; rw [upd_eq]; simp [v_ms]
  · rw [upd_ne e]; simp only [v_ms]
    by_cases h2 : k < i
    · rw [if_pos h2, if_pos (by omega)]
    · rw [if_neg h2, if_neg (by omega)]
def s_st0 (r : PR) (h : Nat → Int32) : PR := (r.1, v_fill r.2.1 0 4, nI 0, r.2.2.2.1, v_fill r.2.2.2.2.1 0 4, nI 0, v_fill r.2.2.2.2.2.2.1 (nI 0) 8, v_fill r.2.2.2.2.2.2.2.1 (nI 0) 8, v_fill r.2.2.2.2.2.2.2.2.1 (nI 0) 8, v_fill r.2.2.2.2.2.2.2.2.2.1 (nI 0) 32, v_ms r.2.2.2.2.2.2.2.2.2.2.1 h 16, nI 0, nI 0, nI 0)
theorem s_st0_rep (r : PR) (h : Nat → Int32) : s_rep (s_st0 r h) ([], [], (fun _ => 0, fun _ => 0, fun _ => 0, fun _ => 0), v_ms r.2.2.2.2.2.2.2.2.2.2.1 h 16, 0, 0, 0) := by
  have hf : ∀ (f : Nat → Int32) (v : Int32) (n i : Nat), i < n → v_fill f v n i = v := fun f v n i hi => by simp [v_fill, hi]
  have hl : s_lok [] := ⟨fun y hy => absurd hy List.not_mem_nil, fun k _ => Nat.zero_le _⟩
  refine ⟨⟨fun i x hx => by simp at hx, fun k hk => hf _ _ _ _ hk⟩, rfl, hl, ⟨fun i x hx => by simp at hx, fun k hk => hf _ _ _ _ hk⟩, rfl, hl, ⟨fun t ht => ⟨hf _ _ _ _ ht, hf _ _ _ _ ht, hf _ _ _ _ ht, Nat.zero_le _, by show (0 : Nat) < 16; omega⟩, fun i hi => hf _ _ _ _ hi⟩, rfl, rfl, rfl, rfl⟩

set_option maxRecDepth 20000 in
set_option maxHeartbeats 1000000 in
theorem c_pstart {l : Launch} {E : bz_E} {L : List Nat} {g : Nat → va_E} {o p sd : Nat} {r0 : PR} {zs cs ts ws v0 i0 v1 i1 : Nat → Int32} {n0 n1 sp tc : Int32} (hsd : sd < 2) (hH : bz_H L g o (b_PR E o r0)) (hJ : bz_H L g p (b_Plan E p zs cs ts ws v0 i0 n0 v1 i1 n1 sp tc)) (hd : o + 13 ≤ p ∨ p + 11 ≤ o) : bz_K l E mX4_start 2 [.ref o, .ref p, .int (nI sd)] L g (fun r g1 => r = none ∧ bz_B L g g1 [(o, b_PR E o (s_st0 r0 (fun j => ws (sd * 16 + j))))]) := by
  refine bz_K.of (by decide) (bz_le rfl) (fun sz => ?_)
  show bz_G _ _ _ _ _ _ _ _ _ _ _ _ 0 [(0, .ref o), (1, .ref p), (2, .int (nI sd))] []
  obtain ⟨fq, cq, zq, fw, cw, zw, s, wn, cm, wd, mem, a, b, c⟩ := r0
  have hB := bz_B.rf (bz_W.two hH hJ hd)
  have K : ∀ (m i : Nat) (g1 : Nat → va_E), i + m = 16 → bz_B L g g1 [(o, (b_Port E o fq (v_fill cq 0 4) (nI 0) fw (v_fill cw 0 4) (nI 0) (v_fill s (nI 0) 8) (v_fill wn (nI 0) 8) (v_fill cm (nI 0) 8) (v_fill wd (nI 0) 32) (v_ms mem (fun j => ws (sd * 16 + j)) i) a b c)), (p, (b_Plan E p zs cs ts ws v0 i0 n0 v1 i1 n1 sp tc))] → bz_G l E mX4_start (bz_R 2 0 0) L sz (bz_Fm E L sz (fun r g1 => r = none ∧ bz_B L g g1 [(o, b_PR E o (s_st0 (fq, cq, zq, fw, cw, zw, s, wn, cm, wd, mem, a, b, c) (fun j => ws (sd * 16 + j))))])) sz 0 0 L g1 23 [(3, .int (nI i)), (0, .ref o), (1, .ref p), (2, .int (nI sd))] [] := by
    intro m
    induction m with
    | zero =>
      intro i g hi hB
      refine g_iload_n (q := 24) dX4_start_23 rfl rfl ?_
      refine g_bipush (q := 26) (v := (nI 16)) dX4_start_24 rfl (by decide) ?_
      refine g_icmpN_ge (q := 29) (t := 54) dX4_start_26 rfl (by decide) (by omega) (by omega) (fun _ => ?_) (fun c => absurd c (by omega))
      refine g_aload_n (q := 55) dX4_start_54 rfl rfl ?_
      refine g_iconst (q := 56) (v := (nI 0)) dX4_start_55 rfl (by decide) ?_
      refine gb_putf (q := 59) (j := 0) (i := 0) dX4_start_56 rfl fp_X4_45 hB rfl rfl rfl (bz_le rfl) rfl rfl (fun g hB => ?_)
      refine g_aload_n (q := 60) dX4_start_59 rfl rfl ?_
      refine g_iconst (q := 61) (v := (nI 0)) dX4_start_60 rfl (by decide) ?_
      refine gb_putf (q := 64) (j := 0) (i := 0) dX4_start_61 rfl fp_X4_49 hB rfl rfl rfl (bz_le rfl) rfl rfl (fun g hB => ?_)
      refine g_aload_n (q := 65) dX4_start_64 rfl rfl ?_
      refine g_iconst (q := 66) (v := (nI 0)) dX4_start_65 rfl (by decide) ?_
      refine gb_putf (q := 69) (j := 0) (i := 0) dX4_start_66 rfl fp_X4_52 hB rfl rfl rfl (bz_le rfl) rfl rfl (fun g hB => ?_)
      exact g_vret dX4_start_69 rfl (⟨rfl, by rw [show i = 16 by omega] at hB; exact bz_B.fst hB hJ⟩)
    | succ m ih =>
      intro i g hi hB
      refine g_iload_n (q := 24) dX4_start_23 rfl rfl ?_
      refine g_bipush (q := 26) (v := (nI 16)) dX4_start_24 rfl (by decide) ?_
      refine g_icmpN_ge (q := 29) (t := 54) dX4_start_26 rfl (by decide) (by omega) (by omega) (fun c => absurd c (by omega)) (fun _ => ?_)
      refine g_aload_n (q := 30) dX4_start_29 rfl rfl ?_
      refine gb_getf (q := 33) (j := 0) (i := 0) dX4_start_30 rfl fl_X4_28 hB rfl rfl rfl rfl ?_
      refine g_iload_n (q := 34) dX4_start_33 rfl rfl ?_
      refine g_aload_n (q := 35) dX4_start_34 rfl rfl ?_
      refine gb_getf (q := 38) (j := 1) (i := 0) dX4_start_35 rfl fl_X4_36 hB rfl rfl rfl rfl ?_
      refine g_iload_n (q := 39) dX4_start_38 rfl rfl ?_
      refine g_bipush (q := 41) (v := (nI 16)) dX4_start_39 rfl (by decide) ?_
      refine g_imulN (q := 42) dX4_start_41 rfl ?_
      refine g_iload_n (q := 43) dX4_start_42 rfl rfl ?_
      refine g_iaddN (q := 44) dX4_start_43 rfl ?_
      refine g_callN (q := 47) dX4_start_44 rfl kn_X4_41 rfl (c_cellOf (i := sd * 16 + i) (by omega) (by decide) ((hB.1.at (j := 1) rfl).sub 4 rfl)) (by decide) rfl (bz_le rfl) (by decide) (by decide) (fun r g1 hQ => ?_)
      obtain ⟨rfl, hg⟩ := hQ
      have hg := hg.symm
      subst hg
      refine gb_iastN (q := 48) (j := 0) (i := 12) dX4_start_47 rfl hB rfl rfl rfl (by omega) (by decide) (fun g hB => ?_)
      refine g_iincN (q := 51) (c := 1) dX4_start_48 rfl (by decide) rfl rfl (by decide) ?_
      refine g_goto (q := 23) dX4_start_51 (by decide) ?_
      refine g_lvs (lv1 := [(3, .int (nI (i + 1))), (0, .ref o), (1, .ref p), (2, .int (nI sd))]) ⟨rfl, rfl, rfl, rfl, trivial⟩ ?_
      refine ih (i + 1) _ (by omega) ?_
      rw [← v_msS]
      exact hB
  refine g_aload_n (q := 1) dX4_start_0 rfl rfl ?_
  refine gb_getf (q := 4) (j := 0) (i := 0) dX4_start_1 rfl fl_X4_12 hB rfl rfl rfl rfl ?_
  refine gb_callV (q := 7) (j := 0) (i := 1) dX4_start_4 rfl kv_X4_32 (c_clear ((hB.1.at (j := 0) rfl).sub 1 rfl)) rfl (by decide) hB rfl rfl rfl rfl (bz_le rfl) (by decide) (by decide) (fun r g1 hQ => ?_)
  obtain ⟨rfl, h1⟩ := hQ
  have hB := hB.sp (j := 0) rfl 1 rfl h1 (bz_le rfl)
  refine g_aload_n (q := 8) dX4_start_7 rfl rfl ?_
  refine gb_getf (q := 11) (j := 0) (i := 0) dX4_start_8 rfl fl_X4_18 hB rfl rfl rfl rfl ?_
  refine gb_callV (q := 14) (j := 0) (i := 4) dX4_start_11 rfl kv_X4_32 (c_clear ((hB.1.at (j := 0) rfl).sub 4 rfl)) rfl (by decide) hB rfl rfl rfl rfl (bz_le rfl) (by decide) (by decide) (fun r g1 hQ => ?_)
  obtain ⟨rfl, h1⟩ := hQ
  have hB := hB.sp (j := 0) rfl 4 rfl h1 (bz_le rfl)
  refine g_aload_n (q := 15) dX4_start_14 rfl rfl ?_
  refine gb_getf (q := 18) (j := 0) (i := 0) dX4_start_15 rfl fl_X4_24 hB rfl rfl rfl rfl ?_
  refine gb_callV (q := 21) (j := 0) (i := 7) dX4_start_18 rfl kv_X4_35 (c_tclear ((hB.1.at (j := 0) rfl).sub 7 rfl)) rfl (by decide) hB rfl rfl rfl rfl (bz_le rfl) (by decide) (by decide) (fun r g1 hQ => ?_)
  obtain ⟨rfl, h1⟩ := hQ
  have hB := hB.sp (j := 0) rfl 7 rfl h1 (bz_le rfl)
  refine g_iconst (q := 22) (v := (nI 0)) dX4_start_21 rfl (by decide) ?_
  refine g_istore_n (q := 23) rfl dX4_start_22 rfl (by decide) rfl ?_
  refine g_lvs (lv1 := [(3, .int (nI 0)), (0, .ref o), (1, .ref p), (2, .int (nI sd))]) ⟨rfl, rfl, rfl, rfl, trivial⟩ ?_
  exact K 16 0 _ (by omega) hB
def s_cl (v : Int32) : Nat := if v ≤ 0 then 0 else if 50 ≤ v then 50 else v.toNatClampNeg
theorem s_cl_le (v : Int32) : s_cl v ≤ 50 := by
  unfold s_cl
  by_cases h : v ≤ 0
  · rw [if_pos h]; omega
  · rw [if_neg h]
    by_cases h2 : 50 ≤ v
    · rw [if_pos h2]; omega
    · rw [if_neg h2]
      have h3 := Int32.lt_iff_toInt_lt.mp (Int32.not_le.mp h2)
      have h4 : (50 : Int32).toInt = 50 := by decide
      have : v.toNatClampNeg = v.toInt.toNat := rfl
      omega
theorem bz_clamp (v : Int32) : (if nI 0 < (if v < nI 50 then v else nI 50) then (if v < nI 50 then v else nI 50) else nI 0) = nI (s_cl v) := by
  have e0 : (nI 0 : Int32) = 0 := rfl
  have e5 : (nI 50 : Int32) = 50 := rfl
  unfold s_cl
  rw [e0, e5]
  by_cases h2 : v < 50
  · rw [if_pos h2]
    by_cases h : v ≤ 0
    · rw [if_pos h, if_neg (Int32.not_lt.mpr h)]; rfl
    · rw [if_neg h, if_pos (Int32.not_le.mp h), if_neg (Int32.not_le.mpr h2)]
      obtain ⟨j, hj, rfl⟩ := nI_of (x := v) (fun e => h (Int32.le_of_lt e))
      rw [nI_clamp hj]
  · have h5 := Int32.not_lt.mp h2
    rw [if_neg h2, if_pos (by decide)]
    have h : ¬ v ≤ 0 := fun e => absurd (Int32.le_trans h5 e) (by decide)
    rw [if_neg h, if_pos h5]; rfl
def s_tm (x : Tx) (t : Nat) : Tx := (tK x, tT x, tR x, tA x, tW x, t, tO x, tV x)
theorem s_tx_tk {fq fw : Nat → Int32} {p n t : Nat} {x : Tx} (hV : (tV x).length ≤ 4) (h : s_tx fq p x) : s_tx (upd (va_cpy fq fw (p * 11) (n * 11) 11) (n * 11 + 5) (nI t)) n (s_tm x t) := by
  have hf : ∀ j, j < 11 → j ≠ 5 → upd (va_cpy fq fw (p * 11) (n * 11) 11) (n * 11 + 5) (nI t) (n * 11 + j) = fq (p * 11 + j) := fun j hj h5 => by
    rw [upd_ne (by omega)]
    unfold va_cpy
    rw [if_pos ⟨by omega, by omega⟩]
    congr 1
    omega
  obtain ⟨h0, h1, h2, h3, h4, h5, h6, h7⟩ := h
  refine ⟨(hf 0 (by omega) (by omega)).trans h0, (hf 1 (by omega) (by omega)).trans h1, (hf 2 (by omega) (by omega)).trans h2, (hf 3 (by omega) (by omega)).trans h3, (hf 4 (by omega) (by omega)).trans h4, upd_eq, (hf 6 (by omega) (by omega)).trans h6, fun j v hj => ?_⟩
  have hl := (List.getElem?_eq_some_iff.mp hj).1
  have hl2 : j < (tV x).length := hl
  exact (hf (7 + j) (by omega) (by omega)).trans (h7 j v hj)
theorem s_tm_ok {x : Tx} {t : Nat} (h : s_ok x) (ht : t < 100000) : s_ok (s_tm x t) := by
  obtain ⟨x1, x2, x3, x4, x5, x6, x7, x8, x9, x10⟩ := h
  exact ⟨x1, x2, x3, x4, ht, x6, x7, x8, x9, x10⟩

set_option maxRecDepth 20000 in
set_option maxHeartbeats 1000000 in
theorem c_forwardTo {l : Launch} {E : bz_E} {L : List Nat} {g : Nat → va_E} {o p q ps now : Nat} {x : Tx} {r0 r1 : PR} {P P1 : Po} {v it : Nat → Int32} {l0 : List Int32} (hr : s_rep r0 P) (hr1 : s_rep r1 P1) (hx : P.1[ps]? = some x) (hnow : now < 90000) (hle : tM x ≤ now) (hc : s_cnt (tK x) P1.2.1 < 8) (hl : l0.length ≤ 600) (hit : ∀ (j : Nat) (x : Int32), l0[j]? = some x → it j = x) (hok : e_ok l0 0) (hW3 : bz_W L g [(o, b_PR E o r0), (p, b_PR E p r1), (q, b_Sum E q v it (nI l0.length))]) : bz_K l E mX4_forwardTo 3 [.ref o, .ref p, .int (nI ps), .int (nI now), .ref q] L g (fun r g1 => r = none ∧ ∃ (r0' r1' : PR) (v' : Nat → Int32), bz_B L g g1 [(o, b_PR E o r0'), (p, b_PR E p r1'), (q, b_Sum E q v' it (nI l0.length))] ∧ s_rep r0' (P.1.eraseIdx ps, P.2.1, P.2.2.1, P.2.2.2.1, P.2.2.2.2.1 + 1, P.2.2.2.2.2.1 + ps, P.2.2.2.2.2.2 + (now - tM x)) ∧ s_rep r1' (P1.1, P1.2.1 ++ [s_tm x (now + (s_cl (e_val l0 (nI (tK x)) (nI (tA x)) (nI (tW x)) (nI now))) + 1)], P1.2.2)) := by
  refine bz_K.of (by decide) (bz_le rfl) (fun sz => ?_)
  show bz_G _ _ _ _ _ _ _ _ _ _ _ _ 0 [(0, .ref o), (1, .ref p), (2, .int (nI ps)), (3, .int (nI now)), (4, .ref q)] []
  obtain ⟨fq, cq, zq, fw, cw, zw, s, wn, cm, wd, mem, a, b, c⟩ := r0
  obtain ⟨fq1, cq1, zq1, fw1, cw1, zw1, s1, wn1, cm1, wd1, mem1, a1, b1, c1⟩ := r1
  obtain ⟨h1, h2, h3, h4, h5, h6, h7, h8, h9, h10, h11⟩ := hr
  obtain ⟨k1, k2, k3, k4, k5, k6, k7, k8, k9, k10, k11⟩ := hr1
  dsimp only at h1 h2 h3 h4 h5 h6 h7 h8 h9 h10 h11 k1 k2 k3 k4 k5 k6 k7 k8 k9 k10 k11
  subst h2; subst h5; subst h8; subst h9; subst h10; subst h11; subst k2; subst k5; subst k8
  have hps := (List.getElem?_eq_some_iff.mp hx).1
  have hx0 := h1.1 ps x hx
  have hxo := h3.1 x (List.mem_of_getElem? hx)
  have hl32 := h3.len
  have hxm := hxo.2.2.2.2.1
  have hn1 := k6.lt hxo.1 hc
  have hap : o + 13 ≤ p ∨ p + 13 ≤ o := by
    have := hW3.2
    unfold bz_ap at this
    exact (List.pairwise_cons.mp this).1 _ (List.mem_cons_self)
  have hcl := s_cl_le (e_val l0 (nI (tK x)) (nI (tA x)) (nI (tW x)) (nI now))
  have hB := bz_B.rf hW3
  have hrA : s_rep (va_cpy fq fq ((ps + 1) * 11) (ps * 11) ((P.1.length - 1 - ps) * 11), upd cq (tK x) (cq (tK x) + (-1)), nI (P.1.length - 1), fw, cw, nI P.2.1.length, s, wn, cm, wd, P.2.2.2.1, nI (P.2.2.2.2.1 + 1), nI (P.2.2.2.2.2.1 + ps), nI (P.2.2.2.2.2.2 + (now - tM x))) (P.1.eraseIdx ps, P.2.1, P.2.2.1, P.2.2.2.1, P.2.2.2.2.1 + 1, P.2.2.2.2.2.1 + ps, P.2.2.2.2.2.2 + (now - tM x)) :=
    ⟨s_ln_rm h3.1 h1 hx, by rw [List.length_eraseIdx_of_lt hps], s_lok_er h3, h4, rfl, h6, h7, rfl, rfl, rfl, rfl⟩
  have hrB : s_rep (fq1, cq1, nI P1.1.length, upd (va_cpy fq fw1 (ps * 11) (P1.2.1.length * 11) 11) (P1.2.1.length * 11 + 5) (nI (now + (s_cl (e_val l0 (nI (tK x)) (nI (tA x)) (nI (tW x)) (nI now))) + 1)), upd cw1 (tK x) (cw1 (tK x) + nI 1), nI (P1.2.1.length + 1), s1, wn1, cm1, wd1, P1.2.2.2.1, a1, b1, c1) (P1.1, P1.2.1 ++ [s_tm x (now + (s_cl (e_val l0 (nI (tK x)) (nI (tA x)) (nI (tW x)) (nI now))) + 1)], P1.2.2) := by
    refine ⟨k1, rfl, k3, s_ln_app k6.1 k4 (s_tx_tk hxo.2.2.2.2.2.2.1 hx0) (fun j hj => ?_) (fun k hk => ?_), by rw [List.length_append]; rfl, k6.app (s_tm_ok hxo (by omega)) hc, k7, rfl, k9, k10, k11⟩
    · dsimp only
      rw [upd_ne (by omega)]
      unfold va_cpy
      rw [if_neg (by omega)]
    · dsimp only
      by_cases e : k = tK x
      · subst e; rw [upd_eq]; exact congrArg (fun z => cw1 (tK x) + nI z) (if_pos rfl).symm
      · rw [upd_ne e]; exact (Int32.add_zero _).symm.trans (congrArg (fun z => cw1 k + nI z) (if_neg (fun h => e (show tK x = k from h).symm)).symm)
  refine g_aload_n (q := 1) dX4_forwardTo_0 rfl rfl ?_
  refine g_dup (q := 2) dX4_forwardTo_1 rfl rfl ?_
  refine gb_getf (q := 5) (j := 0) (i := 0) dX4_forwardTo_2 rfl fl_X4_45 hB rfl rfl rfl rfl ?_
  refine g_iconst (q := 6) (v := (nI 1)) dX4_forwardTo_5 rfl (by decide) ?_
  refine g_iaddN (q := 7) dX4_forwardTo_6 rfl ?_
  refine gb_putf (q := 10) (j := 0) (i := 0) dX4_forwardTo_7 rfl fp_X4_45 hB rfl rfl rfl (bz_le rfl) rfl rfl (fun g hB => ?_)
  refine g_aload_n (q := 11) dX4_forwardTo_10 rfl rfl ?_
  refine g_dup (q := 12) dX4_forwardTo_11 rfl rfl ?_
  refine gb_getf (q := 15) (j := 0) (i := 0) dX4_forwardTo_12 rfl fl_X4_49 hB rfl rfl rfl rfl ?_
  refine g_iload_n (q := 16) dX4_forwardTo_15 rfl rfl ?_
  refine g_iaddN (q := 17) dX4_forwardTo_16 rfl ?_
  refine gb_putf (q := 20) (j := 0) (i := 0) dX4_forwardTo_17 rfl fp_X4_49 hB rfl rfl rfl (bz_le rfl) rfl rfl (fun g hB => ?_)
  refine g_aload_n (q := 21) dX4_forwardTo_20 rfl rfl ?_
  refine g_dup (q := 22) dX4_forwardTo_21 rfl rfl ?_
  refine gb_getf (q := 25) (j := 0) (i := 0) dX4_forwardTo_22 rfl fl_X4_52 hB rfl rfl rfl rfl ?_
  refine g_iload_n (q := 26) dX4_forwardTo_25 rfl rfl ?_
  refine g_aload_n (q := 27) dX4_forwardTo_26 rfl rfl ?_
  refine gb_getf (q := 30) (j := 0) (i := 0) dX4_forwardTo_27 rfl fl_X4_12 hB rfl rfl rfl rfl ?_
  refine g_iload_n (q := 31) dX4_forwardTo_30 rfl rfl ?_
  refine g_iconst (q := 32) (v := (nI 5)) dX4_forwardTo_31 rfl (by decide) ?_
  refine gb_callV (q := 35) (j := 0) (i := 1) dX4_forwardTo_32 rfl kv_X4_71 (c_get (x := 5) (by omega) ((hB.1.at (j := 0) rfl).sub 1 rfl)) rfl (by decide) hB rfl rfl rfl rfl (bz_le rfl) (by decide) (by decide) (fun r g1 hQ => ?_)
  obtain ⟨rfl, hg⟩ := hQ
  have hg := hg.symm
  subst hg
  refine g_eqi (v := nI (tM x)) (hx0.2.2.2.2.2.1) ?_
  refine g_isubN (q := 36) dX4_forwardTo_35 rfl hle ?_
  refine g_iaddN (q := 37) dX4_forwardTo_36 rfl ?_
  refine gb_putf (q := 40) (j := 0) (i := 0) dX4_forwardTo_37 rfl fp_X4_52 hB rfl rfl rfl (bz_le rfl) rfl rfl (fun g hB => ?_)
  refine g_aload_n (q := 41) dX4_forwardTo_40 rfl rfl ?_
  refine gb_getf (q := 44) (j := 0) (i := 0) dX4_forwardTo_41 rfl fl_X4_12 hB rfl rfl rfl rfl ?_
  refine g_iload_n (q := 45) dX4_forwardTo_44 rfl rfl ?_
  refine g_iconst (q := 46) (v := (nI 0)) dX4_forwardTo_45 rfl (by decide) ?_
  refine gb_callV (q := 49) (j := 0) (i := 1) dX4_forwardTo_46 rfl kv_X4_71 (c_get (x := 0) (by omega) ((hB.1.at (j := 0) rfl).sub 1 rfl)) rfl (by decide) hB rfl rfl rfl rfl (bz_le rfl) (by decide) (by decide) (fun r g1 hQ => ?_)
  obtain ⟨rfl, hg⟩ := hQ
  have hg := hg.symm
  subst hg
  refine g_eqi (v := nI (tK x)) (hx0.1) ?_
  refine g_istore (q := 51) dX4_forwardTo_49 rfl (by decide) rfl ?_
  refine g_aload_n (q := 52) dX4_forwardTo_51 rfl rfl ?_
  refine gb_getf (q := 55) (j := 0) (i := 0) dX4_forwardTo_52 rfl fl_X4_12 hB rfl rfl rfl rfl ?_
  refine g_iload_n (q := 56) dX4_forwardTo_55 rfl rfl ?_
  refine g_iconst (q := 57) (v := (nI 3)) dX4_forwardTo_56 rfl (by decide) ?_
  refine gb_callV (q := 60) (j := 0) (i := 1) dX4_forwardTo_57 rfl kv_X4_71 (c_get (x := 3) (by omega) ((hB.1.at (j := 0) rfl).sub 1 rfl)) rfl (by decide) hB rfl rfl rfl rfl (bz_le rfl) (by decide) (by decide) (fun r g1 hQ => ?_)
  obtain ⟨rfl, hg⟩ := hQ
  have hg := hg.symm
  subst hg
  refine g_eqi (v := nI (tA x)) (hx0.2.2.2.1) ?_
  refine g_istore (q := 62) dX4_forwardTo_60 rfl (by decide) rfl ?_
  refine g_aload_n (q := 63) dX4_forwardTo_62 rfl rfl ?_
  refine gb_getf (q := 66) (j := 0) (i := 0) dX4_forwardTo_63 rfl fl_X4_12 hB rfl rfl rfl rfl ?_
  refine g_iload_n (q := 67) dX4_forwardTo_66 rfl rfl ?_
  refine g_iconst (q := 68) (v := (nI 4)) dX4_forwardTo_67 rfl (by decide) ?_
  refine gb_callV (q := 71) (j := 0) (i := 1) dX4_forwardTo_68 rfl kv_X4_71 (c_get (x := 4) (by omega) ((hB.1.at (j := 0) rfl).sub 1 rfl)) rfl (by decide) hB rfl rfl rfl rfl (bz_le rfl) (by decide) (by decide) (fun r g1 hQ => ?_)
  obtain ⟨rfl, hg⟩ := hQ
  have hg := hg.symm
  subst hg
  refine g_eqi (v := nI (tW x)) (hx0.2.2.2.2.1) ?_
  refine g_istore (q := 73) dX4_forwardTo_71 rfl (by decide) rfl ?_
  refine g_iconst (q := 74) (v := (nI 0)) dX4_forwardTo_73 rfl (by decide) ?_
  refine g_bipush (q := 76) (v := (nI 50)) dX4_forwardTo_74 rfl (by decide) ?_
  refine g_aload (q := 78) dX4_forwardTo_76 rfl rfl ?_
  refine g_iload (q := 80) dX4_forwardTo_78 rfl rfl ?_
  refine g_iload (q := 82) dX4_forwardTo_80 rfl rfl ?_
  refine g_iload (q := 84) dX4_forwardTo_82 rfl rfl ?_
  refine g_iload_n (q := 85) dX4_forwardTo_84 rfl rfl ?_
  refine gb_callV (q := 88) (j := 2) (i := 0) dX4_forwardTo_85 rfl kv_X4_124 (c_valueFor hl hit hok (hB.1.at (j := 2) rfl)) rfl (by decide) hB rfl rfl rfl rfl (bz_le rfl) (by decide) (by decide) (fun r g1 hQ => ?_)
  obtain ⟨rfl, v1, h1⟩ := hQ
  have hB := hB.sp (j := 2) rfl 0 rfl h1 (bz_le rfl)
  refine g_min (q := 91) dX4_forwardTo_88 rfl kmn_X4_84 (by decide) (bz_le rfl) (by decide) (by decide) ?_
  refine g_max (q := 94) dX4_forwardTo_91 rfl kmx_X4_130 (by decide) (bz_le rfl) (by decide) (by decide) ?_
  refine g_eqi (v := nI ((s_cl (e_val l0 (nI (tK x)) (nI (tA x)) (nI (tW x)) (nI now))))) (bz_clamp _) ?_
  refine g_istore (q := 96) dX4_forwardTo_94 rfl (by decide) rfl ?_
  refine g_aload_n (q := 97) dX4_forwardTo_96 rfl rfl ?_
  refine gb_getf (q := 100) (j := 1) (i := 0) dX4_forwardTo_97 rfl fl_X4_18 hB rfl rfl rfl rfl ?_
  refine g_aload_n (q := 101) dX4_forwardTo_100 rfl rfl ?_
  refine gb_getf (q := 104) (j := 0) (i := 0) dX4_forwardTo_101 rfl fl_X4_12 hB rfl rfl rfl rfl ?_
  refine g_iload_n (q := 105) dX4_forwardTo_104 rfl rfl ?_
  refine gb_callV (q := 108) (j := 1) (i := 4) dX4_forwardTo_105 rfl kv_X4_133 (c_takeFrom (n := P1.2.1.length) (n2 := P.1.length) (x := ps) (kd := tK x) hn1 hps h3.len hx0.1 hxo.1 ((hB.1.at (j := 1) rfl).sub 4 rfl) ((hB.1.at (j := 0) rfl).sub 1 rfl) (by omega)) rfl (by decide) hB rfl rfl rfl rfl (bz_le rfl) (by decide) (by decide) (fun r g1 hQ => ?_)
  obtain ⟨rfl, h1⟩ := hQ
  obtain ⟨gm, hm1, hm2⟩ := h1.mid ((hB.1.at (j := 1) rfl).sub 4 (e1 := b_Line E (p + 4) fw1 cw1 (nI P1.2.1.length)) rfl) (by rfl)
  have hB := hB.sp (j := 1) rfl 4 rfl hm1 (bz_le rfl)
  have hB := hB.sp (j := 0) rfl 1 rfl hm2 (bz_le rfl)
  refine g_istore (q := 110) dX4_forwardTo_108 rfl (by decide) rfl ?_
  refine g_aload_n (q := 111) dX4_forwardTo_110 rfl rfl ?_
  refine gb_getf (q := 114) (j := 1) (i := 0) dX4_forwardTo_111 rfl fl_X4_18 hB rfl rfl rfl rfl ?_
  refine g_iload (q := 116) dX4_forwardTo_114 rfl rfl ?_
  refine g_iconst (q := 117) (v := (nI 5)) dX4_forwardTo_116 rfl (by decide) ?_
  refine g_iload_n (q := 118) dX4_forwardTo_117 rfl rfl ?_
  refine g_iload (q := 120) dX4_forwardTo_118 rfl rfl ?_
  refine g_iaddN (q := 121) dX4_forwardTo_120 rfl ?_
  refine g_iconst (q := 122) (v := (nI 1)) dX4_forwardTo_121 rfl (by decide) ?_
  refine g_iaddN (q := 123) dX4_forwardTo_122 rfl ?_
  refine gb_callV (q := 126) (j := 1) (i := 4) dX4_forwardTo_123 rfl kv_X4_110 (c_put (p := P1.2.1.length) (x := 5) (by omega) ((hB.1.at (j := 1) rfl).sub 4 rfl)) rfl (by decide) hB rfl rfl rfl rfl (bz_le rfl) (by decide) (by decide) (fun r g1 hQ => ?_)
  obtain ⟨rfl, h1⟩ := hQ
  have hB := hB.sp (j := 1) rfl 4 rfl h1 (bz_le rfl)
  exact g_vret dX4_forwardTo_126 rfl (⟨rfl, (_, _, nI (P.1.length - 1), fw, cw, nI P.2.1.length, s, wn, cm, wd, P.2.2.2.1, _, _, _), (fq1, cq1, nI P1.1.length, _, _, nI (P1.2.1.length + 1), s1, wn1, cm1, wd1, P1.2.2.2.1, a1, b1, c1), v1, hB, hrA, hrB⟩)
