/-! the reference: blocking, heldOf, nextOf, room -/
def s_bset (tb : Nat → Nat) (x : Tx) (l : List Tx) : Nat → Int32
  | 0 => nI 0
  | n + 1 => s_bset tb x l n ||| (match l[n]? with | some y => if s_blk tb x y then nI 1 <<< (nI n &&& 31) else nI 0 | none => nI 0)
theorem tB_not0 {b : Bool} (h : tB (!b) = 0) : b = true := by cases b <;> simp_all [tB]
theorem tB_notn {b : Bool} (h : ¬ tB (!b) = 0) : ¬ b = true := by cases b <;> simp_all [tB]
theorem bz_ss (a b c : Int32) : a - b - c = a - (b + c) := by rw [Int32.sub_eq_add_neg, Int32.sub_eq_add_neg, Int32.sub_eq_add_neg, Int32.neg_add, Int32.sub_eq_add_neg, Int32.add_assoc]
theorem bz_sh32 : ∀ n, n < 32 → nI 1 <<< (nI n &&& 31) ≠ 0 := by decide +kernel
theorem s_bset0 {tb : Nat → Nat} {x : Tx} {l : List Tx} : ∀ n, n ≤ 32 → n ≤ l.length → (s_bset tb x l n = 0 ↔ (l.take n).all (fun y => !s_blk tb x y) = true)
  | 0, _, _ => by simp [s_bset]; rfl
  | n + 1, hn, hl => by
    have hy : l[n]? = some l[n] := List.getElem?_eq_getElem (by omega)
    rw [s_bset, Int32.or_eq_zero_iff, s_bset0 n (by omega) (by omega), List.take_add_one, hy]
    simp only [List.all_append, Bool.and_eq_true, Option.toList, List.all_cons, List.all_nil, Bool.and_true]
    refine and_congr Iff.rfl ?_
    by_cases h : s_blk tb x l[n] = true
    · rw [if_pos h, h]
      simp [bz_sh32 n (by omega)]
    · rw [if_neg h]
      simp [h]
      rfl

set_option maxRecDepth 20000 in
set_option maxHeartbeats 1000000 in
theorem c_mblocking {l : Launch} {E : bz_E} {L : List Nat} {g : Nat → va_E} {o : Nat} {I : Nat → Int32} {A : Nat → Nat → Int32} {s p : Nat} {P : Po} {x : Tx} {tb : Nat → Nat} (hs : s < 2) (hP : m_sd (A 1) s P) (hpx : P.1[p]? = some x) (ht : ∀ i, i < 16 → A 4 i = nI (tb i) ∧ tb i ≤ 1) (hH : bz_H L g o (b_Mod E o I A)) : bz_K l E mX9_blocking 1 [.ref o, .int (nI s), .int (nI p)] L g (fun r g1 => r = some (.int (s_bset tb x P.1 p)) ∧ g1 = g) := by
  refine bz_K.of (by decide) (bz_le rfl) (fun sz => ?_)
  show bz_G _ _ _ _ _ _ _ _ _ _ _ _ 0 [(0, .ref o), (1, .int (nI s)), (2, .int (nI p))] []
  have hB := bz_B.rf (bz_W.one hH)
  obtain ⟨h1, h2, h3, h4, h5, h6, h7, h8, h9, h10, h11⟩ := hP
  have hl := h10.len
  have hp := (List.getElem?_eq_some_iff.mp hpx).1
  have hx := h8 p x hpx
  have hxk := (h10.1 x (List.mem_of_getElem? hpx)).1
  have K : ∀ (m i : Nat), i + m = p → bz_G l E mX9_blocking (bz_R 1 0 0) L sz (bz_Fm E L sz (fun r g1 => r = some (.int (s_bset tb x P.1 p)) ∧ g1 = g)) sz 0 0 L g 12 [(5, .int (nI i)), (4, .int (s_bset tb x P.1 i)), (3, .int (nI (155 + 480 * s + 15 * p))), (0, .ref o), (1, .int (nI s)), (2, .int (nI p))] [] := by
    intro m
    induction m with
    | zero =>
      intro i hi
      refine g_iload (q := 14) dX9_blocking_12 rfl rfl ?_
      refine g_iload_n (q := 15) dX9_blocking_14 rfl rfl ?_
      refine g_icmpN_ge (q := 18) (t := 82) dX9_blocking_15 rfl (by decide) (by omega) (by omega) (fun _ => ?_) (fun c => absurd c (by omega))
      refine g_iload (q := 84) dX9_blocking_82 rfl rfl ?_
      exact g_iret dX9_blocking_84 rfl (⟨by rw [show i = p by omega], rfl⟩)
    | succ m ih =>
      intro i hi
      obtain ⟨y, hy⟩ : ∃ y, P.1[i]? = some y := ⟨_, List.getElem?_eq_getElem (by omega)⟩
      have hyt := h8 i y hy
      have hyk := (h10.1 y (List.mem_of_getElem? hy)).1
      have J : bz_G l E mX9_blocking (bz_R 1 0 0) L sz (bz_Fm E L sz (fun r g1 => r = some (.int (s_bset tb x P.1 p)) ∧ g1 = g)) sz 0 0 L g 59 [(5, .int (nI i)), (4, .int (s_bset tb x P.1 i)), (3, .int (nI (155 + 480 * s + 15 * p))), (0, .ref o), (1, .int (nI s)), (2, .int (nI p))] [.int (tB (tR x)), .int (nI (tK y)), .int (nI (tK x)), .ref o, .int (s_bset tb x P.1 i)] := by
        refine gb_callV (q := 62) (j := 0) (i := 0) dX9_blocking_59 rfl kv_X9_223 (c_mpasses (tb := tb) (rx := tR x) hxk hyk ht hH) rfl (by decide) hB rfl rfl rfl rfl (bz_le rfl) (by decide) (by decide) (fun r g1 hQ => ?_)
        obtain ⟨rfl, hg⟩ := hQ
        have hg := hg.symm
        subst hg
        rw [m_ps_blk (ht _ (by omega)).2]
        refine g_if_eq (q := 65) (t := 69) dX9_blocking_62 rfl (by decide) (fun c_62 => ?_) (fun c_62 => ?_)
        · refine g_iconst (q := 70) (v := (nI 1)) dX9_blocking_69 rfl (by decide) ?_
          refine g_iload (q := 72) dX9_blocking_70 rfl rfl ?_
          refine g_ishl (q := 73) dX9_blocking_72 rfl ?_
          refine g_ior (q := 74) dX9_blocking_73 rfl ?_
          refine g_eqi (v := s_bset tb x P.1 (i + 1)) (by rw [s_bset, hy]; dsimp only; first | (rw [if_neg (tB_notn c_62)]) | (rw [if_pos (tB_not0 c_62)])) ?_
          refine g_istore (q := 76) dX9_blocking_74 rfl (by decide) rfl ?_
          refine g_iincN (q := 79) (c := 1) dX9_blocking_76 rfl (by decide) rfl rfl (by decide) ?_
          refine g_goto (q := 12) dX9_blocking_79 (by decide) ?_
          refine g_lvs (lv1 := [(5, .int (nI (i + 1))), (4, .int (s_bset tb x P.1 (i + 1))), (3, .int (nI (155 + 480 * s + 15 * p))), (0, .ref o), (1, .int (nI s)), (2, .int (nI p))]) ⟨rfl, rfl, rfl, rfl, rfl, rfl, trivial⟩ ?_
          exact ih (i + 1) (by omega)
        · refine g_iconst (q := 66) (v := (nI 0)) dX9_blocking_65 rfl (by decide) ?_
          refine g_goto (q := 73) dX9_blocking_66 (by decide) ?_
          refine g_ior (q := 74) dX9_blocking_73 rfl ?_
          refine g_eqi (v := s_bset tb x P.1 (i + 1)) (by rw [s_bset, hy]; dsimp only; first | (rw [if_neg (tB_notn c_62)]) | (rw [if_pos (tB_not0 c_62)])) ?_
          refine g_istore (q := 76) dX9_blocking_74 rfl (by decide) rfl ?_
          refine g_iincN (q := 79) (c := 1) dX9_blocking_76 rfl (by decide) rfl rfl (by decide) ?_
          refine g_goto (q := 12) dX9_blocking_79 (by decide) ?_
          refine g_lvs (lv1 := [(5, .int (nI (i + 1))), (4, .int (s_bset tb x P.1 (i + 1))), (3, .int (nI (155 + 480 * s + 15 * p))), (0, .ref o), (1, .int (nI s)), (2, .int (nI p))]) ⟨rfl, rfl, rfl, rfl, rfl, rfl, trivial⟩ ?_
          exact ih (i + 1) (by omega)
      refine g_iload (q := 14) dX9_blocking_12 rfl rfl ?_
      refine g_iload_n (q := 15) dX9_blocking_14 rfl rfl ?_
      refine g_icmpN_ge (q := 18) (t := 82) dX9_blocking_15 rfl (by decide) (by omega) (by omega) (fun c => absurd c (by omega)) (fun _ => ?_)
      refine g_iload (q := 20) dX9_blocking_18 rfl rfl ?_
      refine g_aload_n (q := 21) dX9_blocking_20 rfl rfl ?_
      refine g_aload_n (q := 22) dX9_blocking_21 rfl rfl ?_
      refine gb_getf (q := 25) (j := 0) (i := 0) dX9_blocking_22 rfl fl_X9_7 hB rfl rfl rfl rfl ?_
      refine g_iload_n (q := 26) dX9_blocking_25 rfl rfl ?_
      refine g_iconst (q := 27) (v := (nI 0)) dX9_blocking_26 rfl (by decide) ?_
      refine g_iaddN (q := 28) dX9_blocking_27 rfl ?_
      refine gb_ialdN (q := 29) (j := 0) (i := 1) dX9_blocking_28 rfl hB rfl rfl rfl (by omega) (by decide) ?_
      refine g_eqi (v := nI (tK x)) (hx.1.1) ?_
      refine g_aload_n (q := 30) dX9_blocking_29 rfl rfl ?_
      refine gb_getf (q := 33) (j := 0) (i := 0) dX9_blocking_30 rfl fl_X9_7 hB rfl rfl rfl rfl ?_
      refine g_iload_n (q := 34) dX9_blocking_33 rfl rfl ?_
      refine g_iload (q := 36) dX9_blocking_34 rfl rfl ?_
      refine g_callS (q := 39) dX9_blocking_36 rfl ks_X9_233 rfl (c_waits) (by decide) rfl (bz_le rfl) (by decide) (by decide) (fun r g1 hQ => ?_)
      obtain ⟨rfl, hg⟩ := hQ
      have hg := hg.symm
      subst hg
      refine g_iconst (q := 40) (v := (nI 0)) dX9_blocking_39 rfl (by decide) ?_
      refine g_iaddN (q := 41) dX9_blocking_40 rfl ?_
      refine gb_ialdN (q := 42) (j := 0) (i := 1) dX9_blocking_41 rfl hB rfl rfl rfl (by omega) (by decide) ?_
      refine g_eqi (v := nI (tK y)) (hyt.1.1) ?_
      refine g_aload_n (q := 43) dX9_blocking_42 rfl rfl ?_
      refine gb_getf (q := 46) (j := 0) (i := 0) dX9_blocking_43 rfl fl_X9_7 hB rfl rfl rfl rfl ?_
      refine g_iload_n (q := 47) dX9_blocking_46 rfl rfl ?_
      refine g_iconst (q := 48) (v := (nI 5)) dX9_blocking_47 rfl (by decide) ?_
      refine g_iaddN (q := 49) dX9_blocking_48 rfl ?_
      refine gb_ialdN (q := 50) (j := 0) (i := 1) dX9_blocking_49 rfl hB rfl rfl rfl (by omega) (by decide) ?_
      refine g_iconst (q := 51) (v := (nI 1)) dX9_blocking_50 rfl (by decide) ?_
      refine g_icmp_ne (q := 54) (t := 58) dX9_blocking_51 rfl (by decide) (fun c_51 => ?_) (fun c_51 => ?_)
      · refine g_iconst (q := 59) (v := (nI 0)) dX9_blocking_58 rfl (by decide) ?_
        refine g_eqi (v := tB (tR x)) (by first | exact tB_ne hx.1.2.2.2.2.1 c_51 | exact tB_eq hx.1.2.2.2.2.1 c_51) ?_
        exact J
      · refine g_iconst (q := 55) (v := (nI 1)) dX9_blocking_54 rfl (by decide) ?_
        refine g_goto (q := 59) dX9_blocking_55 (by decide) ?_
        refine g_eqi (v := tB (tR x)) (by first | exact tB_ne hx.1.2.2.2.2.1 c_51 | exact tB_eq hx.1.2.2.2.2.1 c_51) ?_
        exact J
  refine g_iload_n (q := 1) dX9_blocking_0 rfl rfl ?_
  refine g_iload_n (q := 2) dX9_blocking_1 rfl rfl ?_
  refine g_callS (q := 5) dX9_blocking_2 rfl ks_X9_233 rfl (c_waits) (by decide) rfl (bz_le rfl) (by decide) (by decide) (fun r g1 hQ => ?_)
  obtain ⟨rfl, hg⟩ := hQ
  have hg := hg.symm
  subst hg
  refine g_istore_n (q := 6) rfl dX9_blocking_5 rfl (by decide) rfl ?_
  refine g_iconst (q := 7) (v := (nI 0)) dX9_blocking_6 rfl (by decide) ?_
  refine g_istore (q := 9) dX9_blocking_7 rfl (by decide) rfl ?_
  refine g_iconst (q := 10) (v := (nI 0)) dX9_blocking_9 rfl (by decide) ?_
  refine g_istore (q := 12) dX9_blocking_10 rfl (by decide) rfl ?_
  refine g_lvs (lv1 := [(5, .int (nI 0)), (4, .int (s_bset tb x P.1 0)), (3, .int (nI (155 + 480 * s + 15 * p))), (0, .ref o), (1, .int (nI s)), (2, .int (nI p))]) ⟨rfl, rfl, rfl, rfl, rfl, rfl, trivial⟩ ?_
  exact K p 0 (by omega)
theorem s_cnt_take (k : Nat) (l : List Tx) (n : Nat) (x : Tx) (h : l[n]? = some x) : s_cnt k (l.take (n + 1)) = s_cnt k (l.take n) + if tK x = k then 1 else 0 := by
  rw [List.take_add_one, h]
  exact s_cnt_app k (l.take n) x
theorem s_cnt_tle (k : Nat) (l : List Tx) (n : Nat) : s_cnt k (l.take n) ≤ s_cnt k l := by
  unfold s_cnt
  exact List.Sublist.countP_le (List.take_sublist n l)
set_option maxRecDepth 20000 in
set_option maxHeartbeats 1000000 in
theorem c_mheldOf {l : Launch} {E : bz_E} {L : List Nat} {g : Nat → va_E} {o : Nat} {I : Nat → Int32} {A : Nat → Nat → Int32} {s k : Nat} {P : Po} (hs : s < 2) (hk : k < 4) (hP : m_sd (A 1) s P) (hH : bz_H L g o (b_Mod E o I A)) : bz_K l E mX9_heldOf 1 [.ref o, .int (nI s), .int (nI k)] L g (fun r g1 => r = some (.int (nI (s_cnt k P.2.1))) ∧ g1 = g) := by
  refine bz_K.of (by decide) (bz_le rfl) (fun sz => ?_)
  show bz_G _ _ _ _ _ _ _ _ _ _ _ _ 0 [(0, .ref o), (1, .int (nI s)), (2, .int (nI k))] []
  have hB := bz_B.rf (bz_W.one hH)
  obtain ⟨h1, h2, h3, h4, h5, h6, h7, h8, h9, h10, h11⟩ := hP
  have hl := h11.len
  have K : ∀ (m i : Nat), i + m = P.2.1.length → bz_G l E mX9_heldOf (bz_R 1 0 0) L sz (bz_Fm E L sz (fun r g1 => r = some (.int (nI (s_cnt k P.2.1))) ∧ g1 = g)) sz 0 0 L g 5 [(4, .int (nI i)), (3, .int (nI (s_cnt k (P.2.1.take i)))), (0, .ref o), (1, .int (nI s)), (2, .int (nI k))] [] := by
    intro m
    induction m with
    | zero =>
      intro i hi
      refine g_iload (q := 7) dX9_heldOf_5 rfl rfl ?_
      refine g_aload_n (q := 8) dX9_heldOf_7 rfl rfl ?_
      refine gb_getf (q := 11) (j := 0) (i := 0) dX9_heldOf_8 rfl fl_X9_7 hB rfl rfl rfl rfl ?_
      refine g_iconst (q := 12) (v := (nI 3)) dX9_heldOf_11 rfl (by decide) ?_
      refine g_iload_n (q := 13) dX9_heldOf_12 rfl rfl ?_
      refine g_iaddN (q := 14) dX9_heldOf_13 rfl ?_
      refine gb_ialdN (q := 15) (j := 0) (i := 1) dX9_heldOf_14 rfl hB rfl rfl rfl (by omega) (by decide) ?_
      refine g_eqi (v := nI (P.2.1.length)) (h2) ?_
      refine g_icmpN_ge (q := 18) (t := 49) dX9_heldOf_15 rfl (by decide) (by omega) (by omega) (fun _ => ?_) (fun c => absurd c (by omega))
      refine g_iload_n (q := 50) dX9_heldOf_49 rfl rfl ?_
      exact g_iret dX9_heldOf_50 rfl (⟨by rw [List.take_of_length_le (by omega)], rfl⟩)
    | succ m ih =>
      intro i hi
      obtain ⟨x, hpx⟩ : ∃ x, P.2.1[i]? = some x := ⟨_, List.getElem?_eq_getElem (by omega)⟩
      have hx := h9 i x hpx
      have hxk := (h11.1 x (List.mem_of_getElem? hpx)).1
      refine g_iload (q := 7) dX9_heldOf_5 rfl rfl ?_
      refine g_aload_n (q := 8) dX9_heldOf_7 rfl rfl ?_
      refine gb_getf (q := 11) (j := 0) (i := 0) dX9_heldOf_8 rfl fl_X9_7 hB rfl rfl rfl rfl ?_
      refine g_iconst (q := 12) (v := (nI 3)) dX9_heldOf_11 rfl (by decide) ?_
      refine g_iload_n (q := 13) dX9_heldOf_12 rfl rfl ?_
      refine g_iaddN (q := 14) dX9_heldOf_13 rfl ?_
      refine gb_ialdN (q := 15) (j := 0) (i := 1) dX9_heldOf_14 rfl hB rfl rfl rfl (by omega) (by decide) ?_
      refine g_eqi (v := nI (P.2.1.length)) (h2) ?_
      refine g_icmpN_ge (q := 18) (t := 49) dX9_heldOf_15 rfl (by decide) (by omega) (by omega) (fun c => absurd c (by omega)) (fun _ => ?_)
      refine g_iload_n (q := 19) dX9_heldOf_18 rfl rfl ?_
      refine g_aload_n (q := 20) dX9_heldOf_19 rfl rfl ?_
      refine gb_getf (q := 23) (j := 0) (i := 0) dX9_heldOf_20 rfl fl_X9_7 hB rfl rfl rfl rfl ?_
      refine g_iload_n (q := 24) dX9_heldOf_23 rfl rfl ?_
      refine g_iload (q := 26) dX9_heldOf_24 rfl rfl ?_
      refine g_callS (q := 29) dX9_heldOf_26 rfl ks_X9_240 rfl (c_held0) (by decide) rfl (bz_le rfl) (by decide) (by decide) (fun r g1 hQ => ?_)
      obtain ⟨rfl, hg⟩ := hQ
      have hg := hg.symm
      subst hg
      refine g_iconst (q := 30) (v := (nI 0)) dX9_heldOf_29 rfl (by decide) ?_
      refine g_iaddN (q := 31) dX9_heldOf_30 rfl ?_
      refine gb_ialdN (q := 32) (j := 0) (i := 1) dX9_heldOf_31 rfl hB rfl rfl rfl (by omega) (by decide) ?_
      refine g_eqi (v := nI (tK x)) (hx.1.1) ?_
      refine g_iload_n (q := 33) dX9_heldOf_32 rfl rfl ?_
      refine g_icmpN_ne (q := 36) (t := 40) dX9_heldOf_33 rfl (by decide) (by omega) (by omega) (fun c_33 => ?_) (fun c_33 => ?_)
      · refine g_iconst (q := 41) (v := (nI 0)) dX9_heldOf_40 rfl (by decide) ?_
        refine g_iaddN (q := 42) dX9_heldOf_41 rfl ?_
        refine g_istore_n (q := 43) rfl dX9_heldOf_42 rfl (by decide) rfl ?_
        refine g_iincN (q := 46) (c := 1) dX9_heldOf_43 rfl (by decide) rfl rfl (by decide) ?_
        refine g_goto (q := 5) dX9_heldOf_46 (by decide) ?_
        first
          | (refine g_lvs (lv1 := [(4, .int (nI (i + 1))), (3, .int (nI (s_cnt k (P.2.1.take i) + 1))), (0, .ref o), (1, .int (nI s)), (2, .int (nI k))]) ⟨rfl, rfl, rfl, rfl, rfl, trivial⟩ ?_
             rw [show s_cnt k (P.2.1.take i) + 1 = s_cnt k (P.2.1.take (i + 1)) from by rw [s_cnt_take k _ i x hpx, if_pos c_33]]
             exact ih (i + 1) (by omega))
          | (refine g_lvs (lv1 := [(4, .int (nI (i + 1))), (3, .int (nI (s_cnt k (P.2.1.take i) + 0))), (0, .ref o), (1, .int (nI s)), (2, .int (nI k))]) ⟨rfl, rfl, rfl, rfl, rfl, trivial⟩ ?_
             rw [show s_cnt k (P.2.1.take i) + 0 = s_cnt k (P.2.1.take (i + 1)) from by rw [s_cnt_take k _ i x hpx, if_neg c_33]]
             exact ih (i + 1) (by omega))
      · refine g_iconst (q := 37) (v := (nI 1)) dX9_heldOf_36 rfl (by decide) ?_
        refine g_goto (q := 41) dX9_heldOf_37 (by decide) ?_
        refine g_iaddN (q := 42) dX9_heldOf_41 rfl ?_
        refine g_istore_n (q := 43) rfl dX9_heldOf_42 rfl (by decide) rfl ?_
        refine g_iincN (q := 46) (c := 1) dX9_heldOf_43 rfl (by decide) rfl rfl (by decide) ?_
        refine g_goto (q := 5) dX9_heldOf_46 (by decide) ?_
        first
          | (refine g_lvs (lv1 := [(4, .int (nI (i + 1))), (3, .int (nI (s_cnt k (P.2.1.take i) + 1))), (0, .ref o), (1, .int (nI s)), (2, .int (nI k))]) ⟨rfl, rfl, rfl, rfl, rfl, trivial⟩ ?_
             rw [show s_cnt k (P.2.1.take i) + 1 = s_cnt k (P.2.1.take (i + 1)) from by rw [s_cnt_take k _ i x hpx, if_pos c_33]]
             exact ih (i + 1) (by omega))
          | (refine g_lvs (lv1 := [(4, .int (nI (i + 1))), (3, .int (nI (s_cnt k (P.2.1.take i) + 0))), (0, .ref o), (1, .int (nI s)), (2, .int (nI k))]) ⟨rfl, rfl, rfl, rfl, rfl, trivial⟩ ?_
             rw [show s_cnt k (P.2.1.take i) + 0 = s_cnt k (P.2.1.take (i + 1)) from by rw [s_cnt_take k _ i x hpx, if_neg c_33]]
             exact ih (i + 1) (by omega))
  refine g_iconst (q := 1) (v := (nI 0)) dX9_heldOf_0 rfl (by decide) ?_
  refine g_istore_n (q := 2) rfl dX9_heldOf_1 rfl (by decide) rfl ?_
  refine g_iconst (q := 3) (v := (nI 0)) dX9_heldOf_2 rfl (by decide) ?_
  refine g_istore (q := 5) dX9_heldOf_3 rfl (by decide) rfl ?_
  refine g_lvs (lv1 := [(4, .int (nI 0)), (3, .int (nI (s_cnt k (P.2.1.take 0)))), (0, .ref o), (1, .int (nI s)), (2, .int (nI k))]) ⟨rfl, rfl, rfl, rfl, rfl, trivial⟩ ?_
  exact K P.2.1.length 0 (by omega)
set_option maxRecDepth 20000 in
set_option maxHeartbeats 1000000 in
theorem c_mroom {l : Launch} {E : bz_E} {L : List Nat} {g : Nat → va_E} {o : Nat} {I : Nat → Int32} {A : Nat → Nat → Int32} {s k z : Nat} {P : Po} (hs : s < 2) (hk : k < 4) (hz : A 2 (4 * s + k) = nI z) (hP : m_sd (A 1) s P) (hH : bz_H L g o (b_Mod E o I A)) : bz_K l E mX9_room 1 [.ref o, .int (nI s), .int (nI k)] L g (fun r g1 => r = some (.int (nI z - nI (s_cnt k P.1))) ∧ g1 = g) := by
  refine bz_K.of (by decide) (bz_le rfl) (fun sz => ?_)
  show bz_G _ _ _ _ _ _ _ _ _ _ _ _ 0 [(0, .ref o), (1, .int (nI s)), (2, .int (nI k))] []
  have hB := bz_B.rf (bz_W.one hH)
  obtain ⟨h1, h2, h3, h4, h5, h6, h7, h8, h9, h10, h11⟩ := hP
  have hl := h10.len
  have K : ∀ (m i : Nat), i + m = P.1.length → bz_G l E mX9_room (bz_R 1 0 0) L sz (bz_Fm E L sz (fun r g1 => r = some (.int (nI z - nI (s_cnt k P.1))) ∧ g1 = g)) sz 0 0 L g 14 [(4, .int (nI i)), (3, .int (nI z - nI (s_cnt k (P.1.take i)))), (0, .ref o), (1, .int (nI s)), (2, .int (nI k))] [] := by
    intro m
    induction m with
    | zero =>
      intro i hi
      refine g_iload (q := 16) dX9_room_14 rfl rfl ?_
      refine g_aload_n (q := 17) dX9_room_16 rfl rfl ?_
      refine gb_getf (q := 20) (j := 0) (i := 0) dX9_room_17 rfl fl_X9_7 hB rfl rfl rfl rfl ?_
      refine g_iconst (q := 21) (v := (nI 1)) dX9_room_20 rfl (by decide) ?_
      refine g_iload_n (q := 22) dX9_room_21 rfl rfl ?_
      refine g_iaddN (q := 23) dX9_room_22 rfl ?_
      refine gb_ialdN (q := 24) (j := 0) (i := 1) dX9_room_23 rfl hB rfl rfl rfl (by omega) (by decide) ?_
      refine g_eqi (v := nI (P.1.length)) (h1) ?_
      refine g_icmpN_ge (q := 27) (t := 58) dX9_room_24 rfl (by decide) (by omega) (by omega) (fun _ => ?_) (fun c => absurd c (by omega))
      refine g_iload_n (q := 59) dX9_room_58 rfl rfl ?_
      exact g_iret dX9_room_59 rfl (⟨by rw [List.take_of_length_le (by omega)], rfl⟩)
    | succ m ih =>
      intro i hi
      obtain ⟨x, hpx⟩ : ∃ x, P.1[i]? = some x := ⟨_, List.getElem?_eq_getElem (by omega)⟩
      have hx := h8 i x hpx
      have hxk := (h10.1 x (List.mem_of_getElem? hpx)).1
      refine g_iload (q := 16) dX9_room_14 rfl rfl ?_
      refine g_aload_n (q := 17) dX9_room_16 rfl rfl ?_
      refine gb_getf (q := 20) (j := 0) (i := 0) dX9_room_17 rfl fl_X9_7 hB rfl rfl rfl rfl ?_
      refine g_iconst (q := 21) (v := (nI 1)) dX9_room_20 rfl (by decide) ?_
      refine g_iload_n (q := 22) dX9_room_21 rfl rfl ?_
      refine g_iaddN (q := 23) dX9_room_22 rfl ?_
      refine gb_ialdN (q := 24) (j := 0) (i := 1) dX9_room_23 rfl hB rfl rfl rfl (by omega) (by decide) ?_
      refine g_eqi (v := nI (P.1.length)) (h1) ?_
      refine g_icmpN_ge (q := 27) (t := 58) dX9_room_24 rfl (by decide) (by omega) (by omega) (fun c => absurd c (by omega)) (fun _ => ?_)
      refine g_iload_n (q := 28) dX9_room_27 rfl rfl ?_
      refine g_aload_n (q := 29) dX9_room_28 rfl rfl ?_
      refine gb_getf (q := 32) (j := 0) (i := 0) dX9_room_29 rfl fl_X9_7 hB rfl rfl rfl rfl ?_
      refine g_iload_n (q := 33) dX9_room_32 rfl rfl ?_
      refine g_iload (q := 35) dX9_room_33 rfl rfl ?_
      refine g_callS (q := 38) dX9_room_35 rfl ks_X9_233 rfl (c_waits) (by decide) rfl (bz_le rfl) (by decide) (by decide) (fun r g1 hQ => ?_)
      obtain ⟨rfl, hg⟩ := hQ
      have hg := hg.symm
      subst hg
      refine g_iconst (q := 39) (v := (nI 0)) dX9_room_38 rfl (by decide) ?_
      refine g_iaddN (q := 40) dX9_room_39 rfl ?_
      refine gb_ialdN (q := 41) (j := 0) (i := 1) dX9_room_40 rfl hB rfl rfl rfl (by omega) (by decide) ?_
      refine g_eqi (v := nI (tK x)) (hx.1.1) ?_
      refine g_iload_n (q := 42) dX9_room_41 rfl rfl ?_
      refine g_icmpN_ne (q := 45) (t := 49) dX9_room_42 rfl (by decide) (by omega) (by omega) (fun c_42 => ?_) (fun c_42 => ?_)
      · refine g_iconst (q := 50) (v := (nI 0)) dX9_room_49 rfl (by decide) ?_
        refine g_isub (q := 51) dX9_room_50 rfl ?_
        refine g_eqi (v := nI z - nI (s_cnt k (P.1.take (i + 1)))) (by rw [s_cnt_take k _ i x hpx]; first | (rw [if_pos c_42, ← nI_add, bz_ss]) | (rw [if_neg c_42]; exact Int32.sub_zero _)) ?_
        refine g_istore_n (q := 52) rfl dX9_room_51 rfl (by decide) rfl ?_
        refine g_iincN (q := 55) (c := 1) dX9_room_52 rfl (by decide) rfl rfl (by decide) ?_
        refine g_goto (q := 14) dX9_room_55 (by decide) ?_
        refine g_lvs (lv1 := [(4, .int (nI (i + 1))), (3, .int (nI z - nI (s_cnt k (P.1.take (i + 1))))), (0, .ref o), (1, .int (nI s)), (2, .int (nI k))]) ⟨rfl, rfl, rfl, rfl, rfl, trivial⟩ ?_
        exact ih (i + 1) (by omega)
      · refine g_iconst (q := 46) (v := (nI 1)) dX9_room_45 rfl (by decide) ?_
        refine g_goto (q := 50) dX9_room_46 (by decide) ?_
        refine g_isub (q := 51) dX9_room_50 rfl ?_
        refine g_eqi (v := nI z - nI (s_cnt k (P.1.take (i + 1)))) (by rw [s_cnt_take k _ i x hpx]; first | (rw [if_pos c_42, ← nI_add, bz_ss]) | (rw [if_neg c_42]; exact Int32.sub_zero _)) ?_
        refine g_istore_n (q := 52) rfl dX9_room_51 rfl (by decide) rfl ?_
        refine g_iincN (q := 55) (c := 1) dX9_room_52 rfl (by decide) rfl rfl (by decide) ?_
        refine g_goto (q := 14) dX9_room_55 (by decide) ?_
        refine g_lvs (lv1 := [(4, .int (nI (i + 1))), (3, .int (nI z - nI (s_cnt k (P.1.take (i + 1))))), (0, .ref o), (1, .int (nI s)), (2, .int (nI k))]) ⟨rfl, rfl, rfl, rfl, rfl, trivial⟩ ?_
        exact ih (i + 1) (by omega)
  refine g_aload_n (q := 1) dX9_room_0 rfl rfl ?_
  refine gb_getf (q := 4) (j := 0) (i := 0) dX9_room_1 rfl fl_X9_13 hB rfl rfl rfl rfl ?_
  refine g_iconst (q := 5) (v := (nI 4)) dX9_room_4 rfl (by decide) ?_
  refine g_iload_n (q := 6) dX9_room_5 rfl rfl ?_
  refine g_imulN (q := 7) dX9_room_6 rfl ?_
  refine g_iload_n (q := 8) dX9_room_7 rfl rfl ?_
  refine g_iaddN (q := 9) dX9_room_8 rfl ?_
  refine gb_ialdN (q := 10) (j := 0) (i := 2) dX9_room_9 rfl hB rfl rfl rfl (by omega) (by decide) ?_
  refine g_eqi (v := nI z - nI (s_cnt k (P.1.take 0))) (by rw [show s_cnt k (P.1.take 0) = 0 from rfl]; exact hz.trans (Int32.sub_zero _).symm) ?_
  refine g_istore_n (q := 11) rfl dX9_room_10 rfl (by decide) rfl ?_
  refine g_iconst (q := 12) (v := (nI 0)) dX9_room_11 rfl (by decide) ?_
  refine g_istore (q := 14) dX9_room_12 rfl (by decide) rfl ?_
  refine g_lvs (lv1 := [(4, .int (nI 0)), (3, .int (nI z - nI (s_cnt k (P.1.take 0)))), (0, .ref o), (1, .int (nI s)), (2, .int (nI k))]) ⟨rfl, rfl, rfl, rfl, rfl, trivial⟩ ?_
  exact K P.1.length 0 (by omega)
