/-! class Port: answers, and step 2 whole -/
set_option maxRecDepth 20000 in
set_option maxHeartbeats 1000000 in
theorem c_answerRead {l : Launch} {E : bz_E} {L : List Nat} {g : Nat → va_E} {o p now room sp : Nat} {x : Tx} {Q0 W : List Tx} {fq cq fw cw s wn cm wd mem : Nat → Int32} {a b c : Int32} (hnow : now < 100000) (hroom : room ≤ 8) (hsp : 1 ≤ sp ∧ sp ≤ 4) (hpx : W[p]? = some x) (hk : tK x = 1) (hW : s_ln fw cw W) (hWo : s_lok W) (hQo : s_lok Q0) (hs : s_ln fq cq Q0) (hH : bz_H L g o (b_Port E o fq cq (nI Q0.length) fw cw (nI W.length) s wn cm wd mem a b c)) : bz_K l E mX4_answerRead 3 [.ref o, .int (nI p), .int (nI now), .int (nI room), .int (nI sp)] L g (fun r g1 => r = some (.int (if tW x ≤ (s_ans mem now room sp x 4 Q0 (tO x)).2 then 1 else 0)) ∧ ∃ f1 c1 fw1 : Nat → Int32, bz_B L g g1 [(o, (b_Port E o f1 c1 (nI (s_ans mem now room sp x 4 Q0 (tO x)).1.length) fw1 cw (nI W.length) s wn cm wd mem a b c))] ∧ s_ln f1 c1 (s_ans mem now room sp x 4 Q0 (tO x)).1 ∧ s_lok (s_ans mem now room sp x 4 Q0 (tO x)).1 ∧ s_ln fw1 cw (W.set p (tK x, tT x, tR x, tA x, tW x, tM x, (s_ans mem now room sp x 4 Q0 (tO x)).2, tV x))) := by
  refine bz_K.of (by decide) (bz_le rfl) (fun sz => ?_)
  have hB := bz_B.rf (bz_W.one hH)
  show bz_G _ _ _ _ _ _ _ _ _ _ _ _ 0 [(0, .ref o), (1, .int (nI p)), (2, .int (nI now)), (3, .int (nI room)), (4, .int (nI sp))] []
  have hx := hW.1 p x hpx
  have hxo := hWo.1 x (List.mem_of_getElem? hpx)
  have hp : p < 32 := by have := (List.getElem?_eq_some_iff.mp hpx).1; have := hWo.len; omega
  obtain ⟨x1, x2, x3, x4, x5, x6, x7, x8, x9, x10⟩ := id hxo
  have hset : ∀ off : Nat, s_ln (upd fw (p * 11 + 6) (nI off)) cw (W.set p (tK x, tT x, tR x, tA x, tW x, tM x, off, tV x)) := fun off => by
    refine s_ln_set hWo.1 hW hpx rfl ?_ (fun j hj => upd_ne (by omega))
    obtain ⟨y0, y1, y2, y3, y4, y5, y6, y7⟩ := hx
    refine ⟨by rw [upd_ne (by omega)]; exact y0, by rw [upd_ne (by omega)]; exact y1, by rw [upd_ne (by omega)]; exact y2, by rw [upd_ne (by omega)]; exact y3, by rw [upd_ne (by omega)]; exact y4, by rw [upd_ne (by omega)]; exact y5, upd_eq, fun j v hj => by rw [upd_ne (by omega)]; exact y7 j v hj⟩
  have X : ∀ (off : Nat) (Q : List Tx) (fq cq : Nat → Int32) (g1 : Nat → va_E), off ≤ tW x → s_lok Q → s_ln fq cq Q → bz_B L g g1 [(o, (b_Port E o fq cq (nI Q.length) fw cw (nI W.length) s wn cm wd mem a b c))] → (Q, off) = (s_ans mem now room sp x 4 Q0 (tO x)) → bz_G l E mX4_answerRead (bz_R 3 0 0) L sz (bz_Fm E L sz (fun r g1 => r = some (.int (if tW x ≤ (s_ans mem now room sp x 4 Q0 (tO x)).2 then 1 else 0)) ∧ ∃ f1 c1 fw1 : Nat → Int32, bz_B L g g1 [(o, (b_Port E o f1 c1 (nI (s_ans mem now room sp x 4 Q0 (tO x)).1.length) fw1 cw (nI W.length) s wn cm wd mem a b c))] ∧ s_ln f1 c1 (s_ans mem now room sp x 4 Q0 (tO x)).1 ∧ s_lok (s_ans mem now room sp x 4 Q0 (tO x)).1 ∧ s_ln fw1 cw (W.set p (tK x, tT x, tR x, tA x, tW x, tM x, (s_ans mem now room sp x 4 Q0 (tO x)).2, tV x)))) sz 0 0 L g1 86 [(6, .int (nI off)), (5, .int (nI (tW x))), (0, .ref o), (1, .int (nI p)), (2, .int (nI now)), (3, .int (nI room)), (4, .int (nI sp))] [] := by
    intro off Q fq cq g hoff hQo hs hB hA
    refine g_aload_n (q := 87) dX4_answerRead_86 rfl rfl ?_
    refine gb_getf (q := 90) (j := 0) (i := 0) dX4_answerRead_87 rfl fl_X4_18 hB rfl rfl rfl rfl ?_
    refine g_iload_n (q := 91) dX4_answerRead_90 rfl rfl ?_
    refine g_bipush (q := 93) (v := (nI 6)) dX4_answerRead_91 rfl (by decide) ?_
    refine g_iload (q := 95) dX4_answerRead_93 rfl rfl ?_
    refine gb_callV (q := 98) (j := 0) (i := 4) dX4_answerRead_95 rfl kv_X4_110 (c_put (p := p) (x := 6) (by omega) ((hB.1.at (j := 0) rfl).sub 4 rfl)) rfl (by decide) hB rfl rfl rfl rfl (bz_le rfl) (by decide) (by decide) (fun r g1 hQ => ?_)
    obtain ⟨rfl, h1⟩ := hQ
    have hB := hB.sp (j := 0) rfl 4 rfl h1 (bz_le rfl)
    refine g_iload (q := 100) dX4_answerRead_98 rfl rfl ?_
    refine g_iload (q := 102) dX4_answerRead_100 rfl rfl ?_
    refine g_icmpN_lt (q := 105) (t := 109) dX4_answerRead_102 rfl (by decide) (by omega) (by omega) (fun c_102 => ?_) (fun c_102 => ?_)
    · refine g_iconst (q := 110) (v := (nI 0)) dX4_answerRead_109 rfl (by decide) ?_
      exact g_zret dX4_answerRead_110 rfl rfl ⟨by rw [← hA]; first | (rw [if_neg (by omega)]; rfl) | (rw [if_pos (by omega)]; rfl), fq, cq, _, by rw [← hA]; exact hB, by rw [← hA]; exact hs, by rw [← hA]; exact hQo, by rw [← hA]; exact hset off⟩
    · refine g_iconst (q := 106) (v := (nI 1)) dX4_answerRead_105 rfl (by decide) ?_
      refine g_goto (q := 110) dX4_answerRead_106 (by decide) ?_
      exact g_zret dX4_answerRead_110 rfl rfl ⟨by rw [← hA]; first | (rw [if_neg (by omega)]; rfl) | (rw [if_pos (by omega)]; rfl), fq, cq, _, by rw [← hA]; exact hB, by rw [← hA]; exact hs, by rw [← hA]; exact hQo, by rw [← hA]; exact hset off⟩
  have K : ∀ (m i off : Nat) (Q : List Tx) (fq cq : Nat → Int32) (g1 : Nat → va_E), i + m = 4 → off ≤ tW x → s_lok Q → s_ln fq cq Q → bz_B L g g1 [(o, (b_Port E o fq cq (nI Q.length) fw cw (nI W.length) s wn cm wd mem a b c))] → s_ans mem now room sp x m Q off = (s_ans mem now room sp x 4 Q0 (tO x)) → bz_G l E mX4_answerRead (bz_R 3 0 0) L sz (bz_Fm E L sz (fun r g1 => r = some (.int (if tW x ≤ (s_ans mem now room sp x 4 Q0 (tO x)).2 then 1 else 0)) ∧ ∃ f1 c1 fw1 : Nat → Int32, bz_B L g g1 [(o, (b_Port E o f1 c1 (nI (s_ans mem now room sp x 4 Q0 (tO x)).1.length) fw1 cw (nI W.length) s wn cm wd mem a b c))] ∧ s_ln f1 c1 (s_ans mem now room sp x 4 Q0 (tO x)).1 ∧ s_lok (s_ans mem now room sp x 4 Q0 (tO x)).1 ∧ s_ln fw1 cw (W.set p (tK x, tT x, tR x, tA x, tW x, tM x, (s_ans mem now room sp x 4 Q0 (tO x)).2, tV x)))) sz 0 0 L g1 26 [(7, .int (nI i)), (6, .int (nI off)), (5, .int (nI (tW x))), (0, .ref o), (1, .int (nI p)), (2, .int (nI now)), (3, .int (nI room)), (4, .int (nI sp))] [] := by
    intro m
    induction m with
    | zero =>
      intro i off Q fq cq g hi hoff hQo hs hB hA
      refine g_iload (q := 28) dX4_answerRead_26 rfl rfl ?_
      refine g_iconst (q := 29) (v := (nI 4)) dX4_answerRead_28 rfl (by decide) ?_
      refine g_icmpN_ge (q := 32) (t := 86) dX4_answerRead_29 rfl (by decide) (by omega) (by omega) (fun _ => ?_) (fun c => absurd c (by omega))
      refine g_lvs (lv1 := [(6, .int (nI off)), (5, .int (nI (tW x))), (0, .ref o), (1, .int (nI p)), (2, .int (nI now)), (3, .int (nI room)), (4, .int (nI sp))]) ⟨rfl, rfl, rfl, rfl, rfl, rfl, rfl, trivial⟩ ?_
      exact X off Q fq cq g hoff hQo hs hB (hA)
    | succ m ih =>
      intro i off Q fq cq g hi hoff hQo hs hB hA
      refine g_iload (q := 28) dX4_answerRead_26 rfl rfl ?_
      refine g_iconst (q := 29) (v := (nI 4)) dX4_answerRead_28 rfl (by decide) ?_
      refine g_icmpN_ge (q := 32) (t := 86) dX4_answerRead_29 rfl (by decide) (by omega) (by omega) (fun c => absurd c (by omega)) (fun _ => ?_)
      refine g_iload (q := 34) dX4_answerRead_32 rfl rfl ?_
      refine g_iload (q := 36) dX4_answerRead_34 rfl rfl ?_
      refine g_icmpN_ge (q := 39) (t := 86) dX4_answerRead_36 rfl (by decide) (by omega) (by omega) (fun c_36 => ?_) (fun c_36 => ?_)
      · refine g_lvs (lv1 := [(6, .int (nI off)), (5, .int (nI (tW x))), (0, .ref o), (1, .int (nI p)), (2, .int (nI now)), (3, .int (nI room)), (4, .int (nI sp))]) ⟨rfl, rfl, rfl, rfl, rfl, rfl, rfl, trivial⟩ ?_
        exact X off Q fq cq g hoff hQo hs hB (by rw [← hA, s_ans, if_neg (by omega)])
      · refine g_aload_n (q := 40) dX4_answerRead_39 rfl rfl ?_
        refine gb_getf (q := 43) (j := 0) (i := 0) dX4_answerRead_40 rfl fl_X4_12 hB rfl rfl rfl rfl ?_
        refine g_iconst (q := 44) (v := (nI 3)) dX4_answerRead_43 rfl (by decide) ?_
        refine gb_callV (q := 47) (j := 0) (i := 1) dX4_answerRead_44 rfl kv_X4_102 (c_countOf (k := 3) (by decide) ((hB.1.at (j := 0) rfl).sub 1 rfl)) rfl (by decide) hB rfl rfl rfl rfl (bz_le rfl) (by decide) (by decide) (fun r g1 hQ => ?_)
        obtain ⟨rfl, hg⟩ := hQ
        have hg := hg.symm
        subst hg
        refine g_eqi (v := nI (s_cnt 3 Q)) (hs.2 3 (by decide)) ?_
        refine g_iload_n (q := 48) dX4_answerRead_47 rfl rfl ?_
        refine g_icmpN_ge (q := 51) (t := 86) dX4_answerRead_48 rfl (by decide) (by have := hQo.2 3 (by decide); omega) (by omega) (fun c_48 => ?_) (fun c_48 => ?_)
        · refine g_lvs (lv1 := [(6, .int (nI off)), (5, .int (nI (tW x))), (0, .ref o), (1, .int (nI p)), (2, .int (nI now)), (3, .int (nI room)), (4, .int (nI sp))]) ⟨rfl, rfl, rfl, rfl, rfl, rfl, rfl, trivial⟩ ?_
          exact X off Q fq cq g hoff hQo hs hB (by rw [← hA, s_ans, if_neg (by omega)])
        · refine g_iload (q := 53) dX4_answerRead_51 rfl rfl ?_
          refine g_iload (q := 55) dX4_answerRead_53 rfl rfl ?_
          refine g_iload (q := 57) dX4_answerRead_55 rfl rfl ?_
          refine g_isubN (q := 58) dX4_answerRead_57 rfl (by omega) ?_
          refine g_min (q := 61) dX4_answerRead_58 rfl kmn_X4_84 (by decide) (bz_le rfl) (by decide) (by decide) ?_
          refine g_eqi (v := nI (min sp (tW x - off))) (bz_minI (by omega) (by omega)) ?_
          refine g_istore (q := 63) dX4_answerRead_61 rfl (by decide) rfl ?_
          refine g_aload_n (q := 64) dX4_answerRead_63 rfl rfl ?_
          refine g_iload_n (q := 65) dX4_answerRead_64 rfl rfl ?_
          refine g_iload (q := 67) dX4_answerRead_65 rfl rfl ?_
          refine g_iload (q := 69) dX4_answerRead_67 rfl rfl ?_
          refine g_iload_n (q := 70) dX4_answerRead_69 rfl rfl ?_
          refine gb_callV (q := 73) (j := 0) (i := 0) dX4_answerRead_70 rfl kv_X4_106 (c_addCompletion (off := off) (wc := min sp (tW x - off)) (by omega) hx (by omega) hxo (by omega) hQo (hQo.lt (k := 3) (by decide) (by omega)) hs (hB.1.at (j := 0) rfl)) rfl (by decide) hB rfl rfl rfl rfl (bz_le rfl) (by decide) (by decide) (fun r g1 hQ => ?_)
          obtain ⟨rfl, f1, c1, h1, hs1⟩ := hQ
          have hB := hB.sp (j := 0) rfl 0 rfl h1 (bz_le rfl)
          refine g_iload (q := 75) dX4_answerRead_73 rfl rfl ?_
          refine g_iload (q := 77) dX4_answerRead_75 rfl rfl ?_
          refine g_iaddN (q := 78) dX4_answerRead_77 rfl ?_
          refine g_istore (q := 80) dX4_answerRead_78 rfl (by decide) rfl ?_
          refine g_iincN (q := 83) (c := 1) dX4_answerRead_80 rfl (by decide) rfl rfl (by decide) ?_
          refine g_goto (q := 26) dX4_answerRead_83 (by decide) ?_
          refine g_lvs (lv1 := [(7, .int (nI (i + 1))), (6, .int (nI (off + min sp (tW x - off)))), (5, .int (nI (tW x))), (0, .ref o), (1, .int (nI p)), (2, .int (nI now)), (3, .int (nI room)), (4, .int (nI sp))]) ⟨rfl, rfl, rfl, rfl, rfl, rfl, rfl, rfl, trivial⟩ ?_
          refine ih (i + 1) (off + min sp (tW x - off)) (Q ++ [s_cmp mem x off (min sp (tW x - off)) now]) f1 c1 g1 (by omega) (by omega) (hQo.app (s_cmp_ok hxo (by omega) hnow) (show s_cnt 3 Q < 8 by omega)) hs1 (by rw [List.length_append]; exact hB) ?_
          rw [← hA, s_ans, if_pos ⟨by omega, by omega⟩]
  refine g_aload_n (q := 1) dX4_answerRead_0 rfl rfl ?_
  refine gb_getf (q := 4) (j := 0) (i := 0) dX4_answerRead_1 rfl fl_X4_18 hB rfl rfl rfl rfl ?_
  refine g_iload_n (q := 5) dX4_answerRead_4 rfl rfl ?_
  refine g_iconst (q := 6) (v := (nI 4)) dX4_answerRead_5 rfl (by decide) ?_
  refine gb_callV (q := 9) (j := 0) (i := 4) dX4_answerRead_6 rfl kv_X4_71 (c_get (x := 4) (by omega) ((hB.1.at (j := 0) rfl).sub 4 rfl)) rfl (by decide) hB rfl rfl rfl rfl (bz_le rfl) (by decide) (by decide) (fun r g1 hQ => ?_)
  obtain ⟨rfl, hg⟩ := hQ
  have hg := hg.symm
  subst hg
  refine g_eqi (v := nI (tW x)) (hx.2.2.2.2.1) ?_
  refine g_istore (q := 11) dX4_answerRead_9 rfl (by decide) rfl ?_
  refine g_aload_n (q := 12) dX4_answerRead_11 rfl rfl ?_
  refine gb_getf (q := 15) (j := 0) (i := 0) dX4_answerRead_12 rfl fl_X4_18 hB rfl rfl rfl rfl ?_
  refine g_iload_n (q := 16) dX4_answerRead_15 rfl rfl ?_
  refine g_bipush (q := 18) (v := (nI 6)) dX4_answerRead_16 rfl (by decide) ?_
  refine gb_callV (q := 21) (j := 0) (i := 4) dX4_answerRead_18 rfl kv_X4_71 (c_get (x := 6) (by omega) ((hB.1.at (j := 0) rfl).sub 4 rfl)) rfl (by decide) hB rfl rfl rfl rfl (bz_le rfl) (by decide) (by decide) (fun r g1 hQ => ?_)
  obtain ⟨rfl, hg⟩ := hQ
  have hg := hg.symm
  subst hg
  refine g_eqi (v := nI (tO x)) (hx.2.2.2.2.2.2.1) ?_
  refine g_istore (q := 23) dX4_answerRead_21 rfl (by decide) rfl ?_
  refine g_iconst (q := 24) (v := (nI 0)) dX4_answerRead_23 rfl (by decide) ?_
  refine g_istore (q := 26) dX4_answerRead_24 rfl (by decide) rfl ?_
  refine g_lvs (lv1 := [(7, .int (nI 0)), (6, .int (nI (tO x))), (5, .int (nI (tW x))), (0, .ref o), (1, .int (nI p)), (2, .int (nI now)), (3, .int (nI room)), (4, .int (nI sp))]) ⟨rfl, rfl, rfl, rfl, rfl, rfl, rfl, rfl, trivial⟩ ?_
  exact K 4 0 (tO x) Q0 fq cq g (by omega) (x10 hk) hQo hs hB rfl
set_option maxRecDepth 20000 in
set_option maxHeartbeats 1000000 in
theorem c_ansC1 {l : Launch} {E : bz_E} {L : List Nat} {g : Nat → va_E} {o p now room : Nat} {x : Tx} {Q : List Tx} {fq cq fw cw s wn cm wd mem : Nat → Int32} {zw a b c : Int32} (hc : s_cnt 3 Q < room) (hp : p < 32) (hx : s_tx fw p x) (hk : tK x = 2) (hxo : s_ok x) (hQo : s_lok Q) (hs : s_ln fq cq Q) (hroom : room ≤ 8) (hH : bz_H L g o (b_Port E o fq cq (nI Q.length) fw cw zw s wn cm wd mem a b c)) : bz_K l E mX4_answerConfiguration 3 [.ref o, .int (nI p), .int (nI now), .int (nI room)] L g (fun r g1 => r = some (.int 1) ∧ ∃ f1 c1 : Nat → Int32, bz_B L g g1 [(o, (b_Port E o f1 c1 (nI (Q.length + 1)) fw cw zw s wn cm wd (s_wr mem (tA x) (tV x)) a b c))] ∧ s_ln f1 c1 (Q ++ [s_cmp mem x 0 0 now])) := by
  refine bz_K.of (by decide) (bz_le rfl) (fun sz => ?_)
  have hB := bz_B.rf (bz_W.one hH)
  show bz_G _ _ _ _ _ _ _ _ _ _ _ _ 0 [(0, .ref o), (1, .int (nI p)), (2, .int (nI now)), (3, .int (nI room))] []
  refine g_aload_n (q := 1) dX4_answerConfiguration_0 rfl rfl ?_
  refine gb_getf (q := 4) (j := 0) (i := 0) dX4_answerConfiguration_1 rfl fl_X4_12 hB rfl rfl rfl rfl ?_
  refine g_iconst (q := 5) (v := (nI 3)) dX4_answerConfiguration_4 rfl (by decide) ?_
  refine gb_callV (q := 8) (j := 0) (i := 1) dX4_answerConfiguration_5 rfl kv_X4_102 (c_countOf (k := 3) (by decide) ((hB.1.at (j := 0) rfl).sub 1 rfl)) rfl (by decide) hB rfl rfl rfl rfl (bz_le rfl) (by decide) (by decide) (fun r g1 hQ => ?_)
  obtain ⟨rfl, hg⟩ := hQ
  have hg := hg.symm
  subst hg
  refine g_eqi (v := nI (s_cnt 3 Q)) (hs.2 3 (by decide)) ?_
  refine g_iload_n (q := 9) dX4_answerConfiguration_8 rfl rfl ?_
  refine g_icmpN_lt (q := 12) (t := 14) dX4_answerConfiguration_9 rfl (by decide) (by omega) (by omega) (fun _ => ?_) (fun c => absurd c (by omega))
  refine g_aload_n (q := 15) dX4_answerConfiguration_14 rfl rfl ?_
  refine g_iload_n (q := 16) dX4_answerConfiguration_15 rfl rfl ?_
  refine gb_callV (q := 19) (j := 0) (i := 0) dX4_answerConfiguration_16 rfl kv_X4_89 (c_writeMemory hp hx (hxo.2.2.2.2.2.2.2.1 (Or.inr hk)) hxo.2.2.1 hxo.2.2.2.1 (hB.1.at (j := 0) rfl)) rfl (by decide) hB rfl rfl rfl rfl (bz_le rfl) (by decide) (by decide) (fun r g1 hQ => ?_)
  obtain ⟨rfl, h1⟩ := hQ
  have hB := hB.sp (j := 0) rfl 0 rfl h1 (bz_le rfl)
  refine g_aload_n (q := 20) dX4_answerConfiguration_19 rfl rfl ?_
  refine g_iload_n (q := 21) dX4_answerConfiguration_20 rfl rfl ?_
  refine g_iconst (q := 22) (v := (nI 0)) dX4_answerConfiguration_21 rfl (by decide) ?_
  refine g_iconst (q := 23) (v := (nI 0)) dX4_answerConfiguration_22 rfl (by decide) ?_
  refine g_iload_n (q := 24) dX4_answerConfiguration_23 rfl rfl ?_
  refine gb_callV (q := 27) (j := 0) (i := 0) dX4_answerConfiguration_24 rfl kv_X4_106 (c_addCompletion (off := 0) (wc := 0) hp hx (by omega) hxo (by omega) hQo (hQo.lt (k := 3) (by decide) (by omega)) hs (hB.1.at (j := 0) rfl)) rfl (by decide) hB rfl rfl rfl rfl (bz_le rfl) (by decide) (by decide) (fun r g1 hQ => ?_)
  obtain ⟨rfl, f1, c1, h1, hs1⟩ := hQ
  have hB := hB.sp (j := 0) rfl 0 rfl h1 (bz_le rfl)
  refine g_iconst (q := 28) (v := (nI 1)) dX4_answerConfiguration_27 rfl (by decide) ?_
  exact g_zret dX4_answerConfiguration_28 rfl rfl ⟨rfl, f1, c1, hB, hs1⟩
set_option maxRecDepth 20000 in
set_option maxHeartbeats 1000000 in
theorem c_ansC0 {l : Launch} {E : bz_E} {L : List Nat} {g : Nat → va_E} {o p now room : Nat} {x : Tx} {Q : List Tx} {fq cq fw cw s wn cm wd mem : Nat → Int32} {zw a b c : Int32} (hc : ¬ s_cnt 3 Q < room) (hp : p < 32) (hx : s_tx fw p x) (hk : tK x = 2) (hxo : s_ok x) (hQo : s_lok Q) (hs : s_ln fq cq Q) (hroom : room ≤ 8) (hH : bz_H L g o (b_Port E o fq cq (nI Q.length) fw cw zw s wn cm wd mem a b c)) : bz_K l E mX4_answerConfiguration 3 [.ref o, .int (nI p), .int (nI now), .int (nI room)] L g (fun r g1 => r = some (.int 0) ∧ g1 = g) := by
  refine bz_K.of (by decide) (bz_le rfl) (fun sz => ?_)
  have hB := bz_B.rf (bz_W.one hH)
  show bz_G _ _ _ _ _ _ _ _ _ _ _ _ 0 [(0, .ref o), (1, .int (nI p)), (2, .int (nI now)), (3, .int (nI room))] []
  refine g_aload_n (q := 1) dX4_answerConfiguration_0 rfl rfl ?_
  refine gb_getf (q := 4) (j := 0) (i := 0) dX4_answerConfiguration_1 rfl fl_X4_12 hB rfl rfl rfl rfl ?_
  refine g_iconst (q := 5) (v := (nI 3)) dX4_answerConfiguration_4 rfl (by decide) ?_
  refine gb_callV (q := 8) (j := 0) (i := 1) dX4_answerConfiguration_5 rfl kv_X4_102 (c_countOf (k := 3) (by decide) ((hB.1.at (j := 0) rfl).sub 1 rfl)) rfl (by decide) hB rfl rfl rfl rfl (bz_le rfl) (by decide) (by decide) (fun r g1 hQ => ?_)
  obtain ⟨rfl, hg⟩ := hQ
  have hg := hg.symm
  subst hg
  refine g_eqi (v := nI (s_cnt 3 Q)) (hs.2 3 (by decide)) ?_
  refine g_iload_n (q := 9) dX4_answerConfiguration_8 rfl rfl ?_
  refine g_icmpN_lt (q := 12) (t := 14) dX4_answerConfiguration_9 rfl (by decide) (by have := hQo.2 3 (by decide); omega) (by omega) (fun c => absurd c (by omega)) (fun _ => ?_)
  refine g_iconst (q := 13) (v := (nI 0)) dX4_answerConfiguration_12 rfl (by decide) ?_
  exact g_zret dX4_answerConfiguration_13 rfl rfl ⟨rfl, rfl⟩
