/-! the reference: nextOf, comes, writes, leaves, stores -/
set_option maxRecDepth 20000 in
set_option maxHeartbeats 1000000 in
theorem c_mnextOf {l : Launch} {E : bz_E} {L : List Nat} {g : Nat → va_E} {o : Nat} {I : Nat → Int32} {A : Nat → Nat → Int32} {s : Nat} {P P1 : Po} {tb cr : Nat → Nat} (hs : s < 2) (hP : m_sd (A 1) s P) (hP1 : m_sd (A 1) (1 - s) P1) (hc : ∀ k, k < 4 → A 3 (4 * (1 - s) + k) = nI (cr k) ∧ cr k ≤ 8) (ht : ∀ i, i < 16 → A 4 i = nI (tb i) ∧ tb i ≤ 1) (hH : bz_H L g o (b_Mod E o I A)) : bz_K l E mX9_nextOf 2 [.ref o, .int (nI s)] L g (fun r g1 => r = some (.int (match (s_next tb cr P1.2.1 [] P.1) with | some i => nI i | none => -1)) ∧ g1 = g) := by
  refine bz_K.of (by decide) (bz_le rfl) (fun sz => ?_)
  show bz_G _ _ _ _ _ _ _ _ _ _ _ _ 0 [(0, .ref o), (1, .int (nI s))] []
  have hB := bz_B.rf (bz_W.one hH)
  have h1 := hP.1
  have hlk := hP.2.2.2.2.2.2.2.2.2.1
  have hl := hlk.len
  have K : ∀ (m pre : List Tx), pre ++ m = P.1 → s_next tb cr P1.2.1 pre m = (s_next tb cr P1.2.1 [] P.1) → bz_G l E mX9_nextOf (bz_R 2 0 0) L sz (bz_Fm E L sz (fun r g1 => r = some (.int (match (s_next tb cr P1.2.1 [] P.1) with | some i => nI i | none => -1)) ∧ g1 = g)) sz 0 0 L g 2 [(2, .int (nI pre.length)), (0, .ref o), (1, .int (nI s))] [] := by
    intro m
    induction m with
    | nil =>
      intro pre hpr hrun
      have hle : pre.length = P.1.length := by rw [← hpr]; simp
      refine g_iload_n (q := 3) dX9_nextOf_2 rfl rfl ?_
      refine g_aload_n (q := 4) dX9_nextOf_3 rfl rfl ?_
      refine gb_getf (q := 7) (j := 0) (i := 0) dX9_nextOf_4 rfl fl_X9_7 hB rfl rfl rfl rfl ?_
      refine g_iconst (q := 8) (v := (nI 1)) dX9_nextOf_7 rfl (by decide) ?_
      refine g_iload_n (q := 9) dX9_nextOf_8 rfl rfl ?_
      refine g_iaddN (q := 10) dX9_nextOf_9 rfl ?_
      refine gb_ialdN (q := 11) (j := 0) (i := 1) dX9_nextOf_10 rfl hB rfl rfl rfl (by omega) (by decide) ?_
      refine g_eqi (v := nI (P.1.length)) (h1) ?_
      refine g_icmpN_ge (q := 14) (t := 67) dX9_nextOf_11 rfl (by decide) (by omega) (by omega) (fun _ => ?_) (fun c => absurd c (by omega))
      refine g_iconst (q := 68) (v := (-1)) dX9_nextOf_67 rfl (by decide) ?_
      exact g_iret dX9_nextOf_68 rfl (⟨by rw [← hrun]; rfl, rfl⟩)
    | cons x m ih =>
      intro pre hpr hrun
      have hle : pre.length < P.1.length := by rw [← hpr]; simp
      have hpx : P.1[pre.length]? = some x := by rw [← hpr]; exact s_mid
      have hx := hP.2.2.2.2.2.2.2.1 pre.length x hpx
      have hxk := (hlk.1 x (List.mem_of_getElem? hpx)).1
      have hbs : s_bset tb x P.1 pre.length = 0 ↔ pre.all (fun y => !s_blk tb x y) = true := by
        rw [s_bset0 _ (by omega) (by omega), ← hpr, List.take_append_of_le_length (Nat.le_refl _), List.take_of_length_le (Nat.le_refl _)]
      refine g_iload_n (q := 3) dX9_nextOf_2 rfl rfl ?_
      refine g_aload_n (q := 4) dX9_nextOf_3 rfl rfl ?_
      refine gb_getf (q := 7) (j := 0) (i := 0) dX9_nextOf_4 rfl fl_X9_7 hB rfl rfl rfl rfl ?_
      refine g_iconst (q := 8) (v := (nI 1)) dX9_nextOf_7 rfl (by decide) ?_
      refine g_iload_n (q := 9) dX9_nextOf_8 rfl rfl ?_
      refine g_iaddN (q := 10) dX9_nextOf_9 rfl ?_
      refine gb_ialdN (q := 11) (j := 0) (i := 1) dX9_nextOf_10 rfl hB rfl rfl rfl (by omega) (by decide) ?_
      refine g_eqi (v := nI (P.1.length)) (h1) ?_
      refine g_icmpN_ge (q := 14) (t := 67) dX9_nextOf_11 rfl (by decide) (by omega) (by omega) (fun c => absurd c (by omega)) (fun _ => ?_)
      refine g_aload_n (q := 15) dX9_nextOf_14 rfl rfl ?_
      refine gb_getf (q := 18) (j := 0) (i := 0) dX9_nextOf_15 rfl fl_X9_7 hB rfl rfl rfl rfl ?_
      refine g_iload_n (q := 19) dX9_nextOf_18 rfl rfl ?_
      refine g_iload_n (q := 20) dX9_nextOf_19 rfl rfl ?_
      refine g_callS (q := 23) dX9_nextOf_20 rfl ks_X9_233 rfl (c_waits) (by decide) rfl (bz_le rfl) (by decide) (by decide) (fun r g1 hQ => ?_)
      obtain ⟨rfl, hg⟩ := hQ
      have hg := hg.symm
      subst hg
      refine g_iconst (q := 24) (v := (nI 0)) dX9_nextOf_23 rfl (by decide) ?_
      refine g_iaddN (q := 25) dX9_nextOf_24 rfl ?_
      refine gb_ialdN (q := 26) (j := 0) (i := 1) dX9_nextOf_25 rfl hB rfl rfl rfl (by omega) (by decide) ?_
      refine g_eqi (v := nI (tK x)) (hx.1.1) ?_
      refine g_istore_n (q := 27) rfl dX9_nextOf_26 rfl (by decide) rfl ?_
      refine g_aload_n (q := 28) dX9_nextOf_27 rfl rfl ?_
      refine g_iload_n (q := 29) dX9_nextOf_28 rfl rfl ?_
      refine g_iload_n (q := 30) dX9_nextOf_29 rfl rfl ?_
      refine gb_callV (q := 33) (j := 0) (i := 0) dX9_nextOf_30 rfl kv_X9_237 (c_mblocking (P := P) (x := x) (tb := tb) hs hP hpx ht hH) rfl (by decide) hB rfl rfl rfl rfl (bz_le rfl) (by decide) (by decide) (fun r g1 hQ => ?_)
      obtain ⟨rfl, hg⟩ := hQ
      have hg := hg.symm
      subst hg
      refine g_if_ne (q := 36) (t := 61) dX9_nextOf_33 rfl (by decide) (fun c_33 => ?_) (fun c_33 => ?_)
      · refine g_iincN (q := 64) (c := 1) dX9_nextOf_61 rfl (by decide) rfl rfl (by decide) ?_
        refine g_goto (q := 2) dX9_nextOf_64 (by decide) ?_
        refine g_lvs (lv1 := [(2, .int (nI (pre.length + 1))), (0, .ref o), (1, .int (nI s))]) ⟨rfl, rfl, rfl, trivial⟩ ?_
        refine g_lvs (lv1 := [(2, .int (nI (pre ++ [x]).length)), (0, .ref o), (1, .int (nI s))]) ⟨by rw [List.length_append]; rfl, rfl, rfl, trivial⟩ ?_
        exact ih (pre ++ [x]) (by rw [List.append_assoc]; exact hpr) (by rw [← hrun, s_next, if_neg (by simp only [Bool.and_eq_true, decide_eq_true_eq, ← hbs]; first | (intro hh; exact c_33 hh.1) | (intro hh; omega))])
      · refine g_aload_n (q := 37) dX9_nextOf_36 rfl rfl ?_
        refine g_iconst (q := 38) (v := (nI 1)) dX9_nextOf_37 rfl (by decide) ?_
        refine g_iload_n (q := 39) dX9_nextOf_38 rfl rfl ?_
        refine g_isubN (q := 40) dX9_nextOf_39 rfl (by omega) ?_
        refine g_iload_n (q := 41) dX9_nextOf_40 rfl rfl ?_
        refine gb_callV (q := 44) (j := 0) (i := 0) dX9_nextOf_41 rfl kv_X9_243 (c_mheldOf (P := P1) (by omega) hxk hP1 hH) rfl (by decide) hB rfl rfl rfl rfl (bz_le rfl) (by decide) (by decide) (fun r g1 hQ => ?_)
        obtain ⟨rfl, hg⟩ := hQ
        have hg := hg.symm
        subst hg
        refine g_eqi (v := nI (s_cnt (tK x) P1.2.1)) (rfl) ?_
        refine g_aload_n (q := 45) dX9_nextOf_44 rfl rfl ?_
        refine gb_getf (q := 48) (j := 0) (i := 0) dX9_nextOf_45 rfl fl_X9_16 hB rfl rfl rfl rfl ?_
        refine g_iconst (q := 49) (v := (nI 4)) dX9_nextOf_48 rfl (by decide) ?_
        refine g_iconst (q := 50) (v := (nI 1)) dX9_nextOf_49 rfl (by decide) ?_
        refine g_iload_n (q := 51) dX9_nextOf_50 rfl rfl ?_
        refine g_isubN (q := 52) dX9_nextOf_51 rfl (by omega) ?_
        refine g_imulN (q := 53) dX9_nextOf_52 rfl ?_
        refine g_iload_n (q := 54) dX9_nextOf_53 rfl rfl ?_
        refine g_iaddN (q := 55) dX9_nextOf_54 rfl ?_
        refine gb_ialdN (q := 56) (j := 0) (i := 3) dX9_nextOf_55 rfl hB rfl rfl rfl (by omega) (by decide) ?_
        refine g_eqi (v := nI (cr (tK x))) ((hc (tK x) hxk).1) ?_
        refine g_icmpN_ge (q := 59) (t := 61) dX9_nextOf_56 rfl (by decide) (by have := hP1.2.2.2.2.2.2.2.2.2.2.2 (tK x) hxk; omega) (by have := (hc (tK x) hxk).2; omega) (fun c_56 => ?_) (fun c_56 => ?_)
        · refine g_iincN (q := 64) (c := 1) dX9_nextOf_61 rfl (by decide) rfl rfl (by decide) ?_
          refine g_goto (q := 2) dX9_nextOf_64 (by decide) ?_
          refine g_lvs (lv1 := [(2, .int (nI (pre.length + 1))), (0, .ref o), (1, .int (nI s))]) ⟨rfl, rfl, rfl, trivial⟩ ?_
          refine g_lvs (lv1 := [(2, .int (nI (pre ++ [x]).length)), (0, .ref o), (1, .int (nI s))]) ⟨by rw [List.length_append]; rfl, rfl, rfl, trivial⟩ ?_
          exact ih (pre ++ [x]) (by rw [List.append_assoc]; exact hpr) (by rw [← hrun, s_next, if_neg (by simp only [Bool.and_eq_true, decide_eq_true_eq, ← hbs]; first | (intro hh; exact c_33 hh.1) | (intro hh; omega))])
        · refine g_iload_n (q := 60) dX9_nextOf_59 rfl rfl ?_
          exact g_iret dX9_nextOf_60 rfl (⟨by rw [← hrun, s_next, if_pos (by simp only [Bool.and_eq_true, decide_eq_true_eq, ← hbs]; exact ⟨c_33, by omega⟩)], rfl⟩)
  refine g_iconst (q := 1) (v := (nI 0)) dX9_nextOf_0 rfl (by decide) ?_
  refine g_istore_n (q := 2) rfl dX9_nextOf_1 rfl (by decide) rfl ?_
  refine g_lvs (lv1 := [(2, .int (nI 0)), (0, .ref o), (1, .int (nI s))]) ⟨rfl, rfl, rfl, trivial⟩ ?_
  exact K P.1 [] rfl rfl
def v_z (N : Nat → Int32) (e i : Nat) : Nat → Int32 := fun j => if e ≤ j ∧ j < e + i then nI 0 else N j
theorem v_z0 {N : Nat → Int32} {e : Nat} : v_z N e 0 = N := by funext j; simp only [v_z]; rw [if_neg (by omega)]
theorem v_zS {N : Nat → Int32} {e i : Nat} : upd (v_z N e i) (e + i) (nI 0) = v_z N e (i + 1) := by
  funext j
  by_cases h : j = e + i
  · subst h; rw [upd_eq]; simp only [v_z]; rw [if_pos ⟨by omega, by omega⟩]
  · rw [upd_ne h]; simp only [v_z]
    by_cases h2 : e ≤ j ∧ j < e + i
    · rw [if_pos h2, if_pos ⟨by omega, by omega⟩]
    · rw [if_neg h2, if_neg (by omega)]
def m_cm (N : Nat → Int32) (s n : Nat) (k tag ad wd rel : Int32) : Nat → Int32 := upd (upd (upd (upd (upd (upd (upd (v_z N (155 + 480 * s + 15 * n) 15) (155 + 480 * s + 15 * n + 0) k) (155 + 480 * s + 15 * n + 1) tag) (155 + 480 * s + 15 * n + 2) ad) (155 + 480 * s + 15 * n + 3) wd) (155 + 480 * s + 15 * n + 5) rel) (155 + 480 * s + 15 * n + 6) (N 0)) (1 + s) (nI (n + 1))
set_option maxRecDepth 20000 in
set_option maxHeartbeats 1000000 in
theorem c_mcomes {l : Launch} {E : bz_E} {L : List Nat} {g : Nat → va_E} {o : Nat} {I : Nat → Int32} {A : Nat → Nat → Int32} {s n : Nat} {k tag ad wd : Int32} {rx : Bool} (hs : s < 2) (hn : n < 32) (hn1 : A 1 (1 + s) = nI n) (hH : bz_H L g o (b_Mod E o I A)) : bz_K l E mX9_comes 1 [.ref o, .int (nI s), .int k, .int tag, .int ad, .int wd, .int (tB rx)] L g (fun r g1 => r = some (.int (nI (155 + 480 * s + 15 * n))) ∧ bz_B L g g1 [(o, b_Mod E o I (va_up A 1 (m_cm (A 1) s n k tag ad wd (tB rx))))]) := by
  refine bz_K.of (by decide) (bz_le rfl) (fun sz => ?_)
  show bz_G _ _ _ _ _ _ _ _ _ _ _ _ 0 [(0, .ref o), (1, .int (nI s)), (2, .int k), (3, .int tag), (4, .int ad), (5, .int wd), (6, .int (tB rx))] []
  have hB := bz_B.rf (bz_W.one hH)
  have K : ∀ (m i : Nat) (g1 : Nat → va_E), i + m = 15 → bz_B L g g1 [(o, b_Mod E o I (va_up A 1 (v_z (A 1) (155 + 480 * s + 15 * n) i)))] → bz_G l E mX9_comes (bz_R 1 0 0) L sz (bz_Fm E L sz (fun r g1 => r = some (.int (nI (155 + 480 * s + 15 * n))) ∧ bz_B L g g1 [(o, b_Mod E o I (va_up A 1 (m_cm (A 1) s n k tag ad wd (tB rx))))])) sz 0 0 L g1 17 [(8, .int (nI i)), (7, .int (nI (155 + 480 * s + 15 * n))), (0, .ref o), (1, .int (nI s)), (2, .int k), (3, .int tag), (4, .int ad), (5, .int wd), (6, .int (tB rx))] [] := by
    intro m
    induction m with
    | zero =>
      intro i g hi hB
      cases rx with
      | false =>
        refine g_iload (q := 19) dX9_comes_17 rfl rfl ?_
        refine g_bipush (q := 21) (v := (nI 15)) dX9_comes_19 rfl (by decide) ?_
        refine g_icmpN_ge (q := 24) (t := 41) dX9_comes_21 rfl (by decide) (by omega) (by omega) (fun _ => ?_) (fun c => absurd c (by omega))
        refine g_aload_n (q := 42) dX9_comes_41 rfl rfl ?_
        refine gb_getf (q := 45) (j := 0) (i := 0) dX9_comes_42 rfl fl_X9_7 hB rfl rfl rfl rfl ?_
        refine g_iload (q := 47) dX9_comes_45 rfl rfl ?_
        refine g_iconst (q := 48) (v := (nI 0)) dX9_comes_47 rfl (by decide) ?_
        refine g_iaddN (q := 49) dX9_comes_48 rfl ?_
        refine g_iload_n (q := 50) dX9_comes_49 rfl rfl ?_
        refine gb_iastN (q := 51) (j := 0) (i := 1) dX9_comes_50 rfl hB rfl rfl rfl (by omega) (by decide) (fun g hB => ?_)
        refine g_aload_n (q := 52) dX9_comes_51 rfl rfl ?_
        refine gb_getf (q := 55) (j := 0) (i := 0) dX9_comes_52 rfl fl_X9_7 hB rfl rfl rfl rfl ?_
        refine g_iload (q := 57) dX9_comes_55 rfl rfl ?_
        refine g_iconst (q := 58) (v := (nI 1)) dX9_comes_57 rfl (by decide) ?_
        refine g_iaddN (q := 59) dX9_comes_58 rfl ?_
        refine g_iload_n (q := 60) dX9_comes_59 rfl rfl ?_
        refine gb_iastN (q := 61) (j := 0) (i := 1) dX9_comes_60 rfl hB rfl rfl rfl (by omega) (by decide) (fun g hB => ?_)
        refine g_aload_n (q := 62) dX9_comes_61 rfl rfl ?_
        refine gb_getf (q := 65) (j := 0) (i := 0) dX9_comes_62 rfl fl_X9_7 hB rfl rfl rfl rfl ?_
        refine g_iload (q := 67) dX9_comes_65 rfl rfl ?_
        refine g_iconst (q := 68) (v := (nI 2)) dX9_comes_67 rfl (by decide) ?_
        refine g_iaddN (q := 69) dX9_comes_68 rfl ?_
        refine g_iload (q := 71) dX9_comes_69 rfl rfl ?_
        refine gb_iastN (q := 72) (j := 0) (i := 1) dX9_comes_71 rfl hB rfl rfl rfl (by omega) (by decide) (fun g hB => ?_)
        refine g_aload_n (q := 73) dX9_comes_72 rfl rfl ?_
        refine gb_getf (q := 76) (j := 0) (i := 0) dX9_comes_73 rfl fl_X9_7 hB rfl rfl rfl rfl ?_
        refine g_iload (q := 78) dX9_comes_76 rfl rfl ?_
        refine g_iconst (q := 79) (v := (nI 3)) dX9_comes_78 rfl (by decide) ?_
        refine g_iaddN (q := 80) dX9_comes_79 rfl ?_
        refine g_iload (q := 82) dX9_comes_80 rfl rfl ?_
        refine gb_iastN (q := 83) (j := 0) (i := 1) dX9_comes_82 rfl hB rfl rfl rfl (by omega) (by decide) (fun g hB => ?_)
        refine g_aload_n (q := 84) dX9_comes_83 rfl rfl ?_
        refine gb_getf (q := 87) (j := 0) (i := 0) dX9_comes_84 rfl fl_X9_7 hB rfl rfl rfl rfl ?_
        refine g_iload (q := 89) dX9_comes_87 rfl rfl ?_
        refine g_iconst (q := 90) (v := (nI 5)) dX9_comes_89 rfl (by decide) ?_
        refine g_iaddN (q := 91) dX9_comes_90 rfl ?_
        refine g_iload (q := 93) dX9_comes_91 rfl rfl ?_
        refine g_if_eq (q := 96) (t := 100) dX9_comes_93 rfl (by decide) (fun _ => ?_) (fun c => absurd (rfl) c)
        refine g_iconst (q := 101) (v := (nI 0)) dX9_comes_100 rfl (by decide) ?_
        refine gb_iastN (q := 102) (j := 0) (i := 1) dX9_comes_101 rfl hB rfl rfl rfl (by omega) (by decide) (fun g hB => ?_)
        refine g_aload_n (q := 103) dX9_comes_102 rfl rfl ?_
        refine gb_getf (q := 106) (j := 0) (i := 0) dX9_comes_103 rfl fl_X9_7 hB rfl rfl rfl rfl ?_
        refine g_iload (q := 108) dX9_comes_106 rfl rfl ?_
        refine g_bipush (q := 110) (v := (nI 6)) dX9_comes_108 rfl (by decide) ?_
        refine g_iaddN (q := 111) dX9_comes_110 rfl ?_
        refine g_aload_n (q := 112) dX9_comes_111 rfl rfl ?_
        refine gb_getf (q := 115) (j := 0) (i := 0) dX9_comes_112 rfl fl_X9_7 hB rfl rfl rfl rfl ?_
        refine g_iconst (q := 116) (v := (nI 0)) dX9_comes_115 rfl (by decide) ?_
        refine gb_ialdN (q := 117) (j := 0) (i := 1) dX9_comes_116 rfl hB rfl rfl rfl (by omega) (by decide) ?_
        refine g_eqi (v := A 1 0) (by simp only [upd]; rw [if_neg (by omega), if_neg (by omega), if_neg (by omega), if_neg (by omega), if_neg (by omega)]; show v_z _ _ _ _ = _; simp only [v_z]; rw [if_neg (by omega)]) ?_
        refine gb_iastN (q := 118) (j := 0) (i := 1) dX9_comes_117 rfl hB rfl rfl rfl (by omega) (by decide) (fun g hB => ?_)
        refine g_aload_n (q := 119) dX9_comes_118 rfl rfl ?_
        refine gb_getf (q := 122) (j := 0) (i := 0) dX9_comes_119 rfl fl_X9_7 hB rfl rfl rfl rfl ?_
        refine g_iconst (q := 123) (v := (nI 1)) dX9_comes_122 rfl (by decide) ?_
        refine g_iload_n (q := 124) dX9_comes_123 rfl rfl ?_
        refine g_iaddN (q := 125) dX9_comes_124 rfl ?_
        refine g_dup2 (q := 126) dX9_comes_125 rfl rfl rfl ?_
        refine gb_ialdN (q := 127) (j := 0) (i := 1) dX9_comes_126 rfl hB rfl rfl rfl (by omega) (by decide) ?_
        refine g_eqi (v := nI (n)) (by simp only [upd]; rw [if_neg (by omega), if_neg (by omega), if_neg (by omega), if_neg (by omega), if_neg (by omega), if_neg (by omega)]; show v_z _ _ _ _ = _; simp only [v_z]; rw [if_neg (by omega)]; exact hn1) ?_
        refine g_iconst (q := 128) (v := (nI 1)) dX9_comes_127 rfl (by decide) ?_
        refine g_iaddN (q := 129) dX9_comes_128 rfl ?_
        refine gb_iastN (q := 130) (j := 0) (i := 1) dX9_comes_129 rfl hB rfl rfl rfl (by omega) (by decide) (fun g hB => ?_)
        refine g_iload (q := 132) dX9_comes_130 rfl rfl ?_
        exact g_iret dX9_comes_132 rfl (⟨rfl, by rw [show i = 15 by omega] at hB; exact hB⟩)
      | true =>
        refine g_iload (q := 19) dX9_comes_17 rfl rfl ?_
        refine g_bipush (q := 21) (v := (nI 15)) dX9_comes_19 rfl (by decide) ?_
        refine g_icmpN_ge (q := 24) (t := 41) dX9_comes_21 rfl (by decide) (by omega) (by omega) (fun _ => ?_) (fun c => absurd c (by omega))
        refine g_aload_n (q := 42) dX9_comes_41 rfl rfl ?_
        refine gb_getf (q := 45) (j := 0) (i := 0) dX9_comes_42 rfl fl_X9_7 hB rfl rfl rfl rfl ?_
        refine g_iload (q := 47) dX9_comes_45 rfl rfl ?_
        refine g_iconst (q := 48) (v := (nI 0)) dX9_comes_47 rfl (by decide) ?_
        refine g_iaddN (q := 49) dX9_comes_48 rfl ?_
        refine g_iload_n (q := 50) dX9_comes_49 rfl rfl ?_
        refine gb_iastN (q := 51) (j := 0) (i := 1) dX9_comes_50 rfl hB rfl rfl rfl (by omega) (by decide) (fun g hB => ?_)
        refine g_aload_n (q := 52) dX9_comes_51 rfl rfl ?_
        refine gb_getf (q := 55) (j := 0) (i := 0) dX9_comes_52 rfl fl_X9_7 hB rfl rfl rfl rfl ?_
        refine g_iload (q := 57) dX9_comes_55 rfl rfl ?_
        refine g_iconst (q := 58) (v := (nI 1)) dX9_comes_57 rfl (by decide) ?_
        refine g_iaddN (q := 59) dX9_comes_58 rfl ?_
        refine g_iload_n (q := 60) dX9_comes_59 rfl rfl ?_
        refine gb_iastN (q := 61) (j := 0) (i := 1) dX9_comes_60 rfl hB rfl rfl rfl (by omega) (by decide) (fun g hB => ?_)
        refine g_aload_n (q := 62) dX9_comes_61 rfl rfl ?_
        refine gb_getf (q := 65) (j := 0) (i := 0) dX9_comes_62 rfl fl_X9_7 hB rfl rfl rfl rfl ?_
        refine g_iload (q := 67) dX9_comes_65 rfl rfl ?_
        refine g_iconst (q := 68) (v := (nI 2)) dX9_comes_67 rfl (by decide) ?_
        refine g_iaddN (q := 69) dX9_comes_68 rfl ?_
        refine g_iload (q := 71) dX9_comes_69 rfl rfl ?_
        refine gb_iastN (q := 72) (j := 0) (i := 1) dX9_comes_71 rfl hB rfl rfl rfl (by omega) (by decide) (fun g hB => ?_)
        refine g_aload_n (q := 73) dX9_comes_72 rfl rfl ?_
        refine gb_getf (q := 76) (j := 0) (i := 0) dX9_comes_73 rfl fl_X9_7 hB rfl rfl rfl rfl ?_
        refine g_iload (q := 78) dX9_comes_76 rfl rfl ?_
        refine g_iconst (q := 79) (v := (nI 3)) dX9_comes_78 rfl (by decide) ?_
        refine g_iaddN (q := 80) dX9_comes_79 rfl ?_
        refine g_iload (q := 82) dX9_comes_80 rfl rfl ?_
        refine gb_iastN (q := 83) (j := 0) (i := 1) dX9_comes_82 rfl hB rfl rfl rfl (by omega) (by decide) (fun g hB => ?_)
        refine g_aload_n (q := 84) dX9_comes_83 rfl rfl ?_
        refine gb_getf (q := 87) (j := 0) (i := 0) dX9_comes_84 rfl fl_X9_7 hB rfl rfl rfl rfl ?_
        refine g_iload (q := 89) dX9_comes_87 rfl rfl ?_
        refine g_iconst (q := 90) (v := (nI 5)) dX9_comes_89 rfl (by decide) ?_
        refine g_iaddN (q := 91) dX9_comes_90 rfl ?_
        refine g_iload (q := 93) dX9_comes_91 rfl rfl ?_
        refine g_if_eq (q := 96) (t := 100) dX9_comes_93 rfl (by decide) (fun c => absurd c (by decide)) (fun _ => ?_)
        refine g_iconst (q := 97) (v := (nI 1)) dX9_comes_96 rfl (by decide) ?_
        refine g_goto (q := 101) dX9_comes_97 (by decide) ?_
        refine gb_iastN (q := 102) (j := 0) (i := 1) dX9_comes_101 rfl hB rfl rfl rfl (by omega) (by decide) (fun g hB => ?_)
        refine g_aload_n (q := 103) dX9_comes_102 rfl rfl ?_
        refine gb_getf (q := 106) (j := 0) (i := 0) dX9_comes_103 rfl fl_X9_7 hB rfl rfl rfl rfl ?_
        refine g_iload (q := 108) dX9_comes_106 rfl rfl ?_
        refine g_bipush (q := 110) (v := (nI 6)) dX9_comes_108 rfl (by decide) ?_
        refine g_iaddN (q := 111) dX9_comes_110 rfl ?_
        refine g_aload_n (q := 112) dX9_comes_111 rfl rfl ?_
        refine gb_getf (q := 115) (j := 0) (i := 0) dX9_comes_112 rfl fl_X9_7 hB rfl rfl rfl rfl ?_
        refine g_iconst (q := 116) (v := (nI 0)) dX9_comes_115 rfl (by decide) ?_
        refine gb_ialdN (q := 117) (j := 0) (i := 1) dX9_comes_116 rfl hB rfl rfl rfl (by omega) (by decide) ?_
        refine g_eqi (v := A 1 0) (by simp only [upd]; rw [if_neg (by omega), if_neg (by omega), if_neg (by omega), if_neg (by omega), if_neg (by omega)]; show v_z _ _ _ _ = _; simp only [v_z]; rw [if_neg (by omega)]) ?_
        refine gb_iastN (q := 118) (j := 0) (i := 1) dX9_comes_117 rfl hB rfl rfl rfl (by omega) (by decide) (fun g hB => ?_)
        refine g_aload_n (q := 119) dX9_comes_118 rfl rfl ?_
        refine gb_getf (q := 122) (j := 0) (i := 0) dX9_comes_119 rfl fl_X9_7 hB rfl rfl rfl rfl ?_
        refine g_iconst (q := 123) (v := (nI 1)) dX9_comes_122 rfl (by decide) ?_
        refine g_iload_n (q := 124) dX9_comes_123 rfl rfl ?_
        refine g_iaddN (q := 125) dX9_comes_124 rfl ?_
        refine g_dup2 (q := 126) dX9_comes_125 rfl rfl rfl ?_
        refine gb_ialdN (q := 127) (j := 0) (i := 1) dX9_comes_126 rfl hB rfl rfl rfl (by omega) (by decide) ?_
        refine g_eqi (v := nI (n)) (by simp only [upd]; rw [if_neg (by omega), if_neg (by omega), if_neg (by omega), if_neg (by omega), if_neg (by omega), if_neg (by omega)]; show v_z _ _ _ _ = _; simp only [v_z]; rw [if_neg (by omega)]; exact hn1) ?_
        refine g_iconst (q := 128) (v := (nI 1)) dX9_comes_127 rfl (by decide) ?_
        refine g_iaddN (q := 129) dX9_comes_128 rfl ?_
        refine gb_iastN (q := 130) (j := 0) (i := 1) dX9_comes_129 rfl hB rfl rfl rfl (by omega) (by decide) (fun g hB => ?_)
        refine g_iload (q := 132) dX9_comes_130 rfl rfl ?_
        exact g_iret dX9_comes_132 rfl (⟨rfl, by rw [show i = 15 by omega] at hB; exact hB⟩)
    | succ m ih =>
      intro i g hi hB
      refine g_iload (q := 19) dX9_comes_17 rfl rfl ?_
      refine g_bipush (q := 21) (v := (nI 15)) dX9_comes_19 rfl (by decide) ?_
      refine g_icmpN_ge (q := 24) (t := 41) dX9_comes_21 rfl (by decide) (by omega) (by omega) (fun c => absurd c (by omega)) (fun _ => ?_)
      refine g_aload_n (q := 25) dX9_comes_24 rfl rfl ?_
      refine gb_getf (q := 28) (j := 0) (i := 0) dX9_comes_25 rfl fl_X9_7 hB rfl rfl rfl rfl ?_
      refine g_iload (q := 30) dX9_comes_28 rfl rfl ?_
      refine g_iload (q := 32) dX9_comes_30 rfl rfl ?_
      refine g_iaddN (q := 33) dX9_comes_32 rfl ?_
      refine g_iconst (q := 34) (v := (nI 0)) dX9_comes_33 rfl (by decide) ?_
      refine gb_iastN (q := 35) (j := 0) (i := 1) dX9_comes_34 rfl hB rfl rfl rfl (by omega) (by decide) (fun g hB => ?_)
      refine g_iincN (q := 38) (c := 1) dX9_comes_35 rfl (by decide) rfl rfl (by decide) ?_
      refine g_goto (q := 17) dX9_comes_38 (by decide) ?_
      refine g_lvs (lv1 := [(8, .int (nI (i + 1))), (7, .int (nI (155 + 480 * s + 15 * n))), (0, .ref o), (1, .int (nI s)), (2, .int k), (3, .int tag), (4, .int ad), (5, .int wd), (6, .int (tB rx))]) ⟨rfl, rfl, rfl, rfl, rfl, rfl, rfl, rfl, rfl, trivial⟩ ?_
      refine ih (i + 1) g (by omega) ?_
      rw [← v_zS]
      exact hB
  refine g_iload_n (q := 1) dX9_comes_0 rfl rfl ?_
  refine g_aload_n (q := 2) dX9_comes_1 rfl rfl ?_
  refine gb_getf (q := 5) (j := 0) (i := 0) dX9_comes_2 rfl fl_X9_7 hB rfl rfl rfl rfl ?_
  refine g_iconst (q := 6) (v := (nI 1)) dX9_comes_5 rfl (by decide) ?_
  refine g_iload_n (q := 7) dX9_comes_6 rfl rfl ?_
  refine g_iaddN (q := 8) dX9_comes_7 rfl ?_
  refine gb_ialdN (q := 9) (j := 0) (i := 1) dX9_comes_8 rfl hB rfl rfl rfl (by omega) (by decide) ?_
  refine g_eqi (v := nI (n)) (hn1) ?_
  refine g_callS (q := 12) dX9_comes_9 rfl ks_X9_233 rfl (c_waits) (by decide) rfl (bz_le rfl) (by decide) (by decide) (fun r g1 hQ => ?_)
  obtain ⟨rfl, hg⟩ := hQ
  have hg := hg.symm
  subst hg
  refine g_istore (q := 14) dX9_comes_12 rfl (by decide) rfl ?_
  refine g_iconst (q := 15) (v := (nI 0)) dX9_comes_14 rfl (by decide) ?_
  refine g_istore (q := 17) dX9_comes_15 rfl (by decide) rfl ?_
  refine g_lvs (lv1 := [(8, .int (nI 0)), (7, .int (nI (155 + 480 * s + 15 * n))), (0, .ref o), (1, .int (nI s)), (2, .int k), (3, .int tag), (4, .int ad), (5, .int wd), (6, .int (tB rx))]) ⟨rfl, rfl, rfl, rfl, rfl, rfl, rfl, rfl, rfl, trivial⟩ ?_
  exact K 15 0 g (by omega) (by rw [v_z0]; exact hB)
def m_wr (N : Nat → Int32) (b : Nat) (v : Int32) (i : Nat) : Nat → Int32 := fun j => if b ≤ j ∧ j < b + i then v + nI (j - b) else N j
theorem m_wr0 {N : Nat → Int32} {b : Nat} {v : Int32} : m_wr N b v 0 = N := by funext j; simp only [m_wr]; rw [if_neg (by omega)]
theorem m_wrS {N : Nat → Int32} {b i : Nat} {v : Int32} : upd (m_wr N b v i) (b + i) (v + nI i) = m_wr N b v (i + 1) := by
  funext j
  by_cases h : j = b + i
  · subst h; rw [upd_eq]; simp only [m_wr]; rw [if_pos ⟨by omega, by omega⟩, show b + i - b = i by omega]
  · rw [upd_ne h]; simp only [m_wr]
    by_cases h2 : b ≤ j ∧ j < b + i
    · rw [if_pos h2, if_pos ⟨by omega, by omega⟩]
    · rw [if_neg h2, if_neg (by omega)]
def m_lv (N : Nat → Int32) (a b : Nat) : Nat → Int32 := fun j => if a ≤ j ∧ j < b then N (j + 15) else N j
theorem m_lv0 {N : Nat → Int32} {a : Nat} : m_lv N a a = N := by funext j; simp only [m_lv]; rw [if_neg (by omega)]
theorem m_lvS {N : Nat → Int32} {a b : Nat} (h : a ≤ b) : upd (m_lv N a b) b (m_lv N a b (b + 15)) = m_lv N a (b + 1) := by
  funext j
  have e : m_lv N a b (b + 15) = N (b + 15) := by simp only [m_lv]; rw [if_neg (by omega)]
  rw [e]
  by_cases h1 : j = b
  · subst h1; rw [upd_eq]; simp only [m_lv]; rw [if_pos ⟨by omega, by omega⟩]
  · rw [upd_ne h1]; simp only [m_lv]
    by_cases h2 : a ≤ j ∧ j < b
    · rw [if_pos h2, if_pos ⟨by omega, by omega⟩]
    · rw [if_neg h2, if_neg (by omega)]
set_option maxRecDepth 20000 in
set_option maxHeartbeats 1000000 in
theorem c_mwrites {l : Launch} {E : bz_E} {L : List Nat} {g : Nat → va_E} {o : Nat} {I : Nat → Int32} {A : Nat → Nat → Int32} {s e ad wd : Nat} (hs : s < 2) (he : 155 ≤ e ∧ e + 15 ≤ 2075) (ha : A 1 (e + 2) = nI ad) (hw : A 1 (e + 3) = nI wd) (had : ad + wd ≤ 16) (hH : bz_H L g o (b_Mod E o I A)) : bz_K l E mX9_writes 0 [.ref o, .int (nI s), .int (nI e)] L g (fun r g1 => r = none ∧ bz_B L g g1 [(o, b_Mod E o I (va_up A 1 (m_wr (A 1) (11 + 16 * s + ad) (A 1 (e + 4)) wd)))]) := by
  refine bz_K.of (by decide) (bz_le rfl) (fun sz => ?_)
  show bz_G _ _ _ _ _ _ _ _ _ _ _ _ 0 [(0, .ref o), (1, .int (nI s)), (2, .int (nI e))] []
  have hB := bz_B.rf (bz_W.one hH)
  have K : ∀ (m i : Nat) (g1 : Nat → va_E), i + m = wd → bz_B L g g1 [(o, b_Mod E o I (va_up A 1 (m_wr (A 1) (11 + 16 * s + ad) (A 1 (e + 4)) i)))] → bz_G l E mX9_writes (bz_R 0 0 0) L sz (bz_Fm E L sz (fun r g1 => r = none ∧ bz_B L g g1 [(o, b_Mod E o I (va_up A 1 (m_wr (A 1) (11 + 16 * s + ad) (A 1 (e + 4)) wd)))])) sz 0 0 L g1 2 [(3, .int (nI i)), (0, .ref o), (1, .int (nI s)), (2, .int (nI e))] [] := by
    intro m
    induction m with
    | zero =>
      intro i g hi hB
      refine g_iload_n (q := 3) dX9_writes_2 rfl rfl ?_
      refine g_aload_n (q := 4) dX9_writes_3 rfl rfl ?_
      refine gb_getf (q := 7) (j := 0) (i := 0) dX9_writes_4 rfl fl_X9_7 hB rfl rfl rfl rfl ?_
      refine g_iload_n (q := 8) dX9_writes_7 rfl rfl ?_
      refine g_iconst (q := 9) (v := (nI 3)) dX9_writes_8 rfl (by decide) ?_
      refine g_iaddN (q := 10) dX9_writes_9 rfl ?_
      refine gb_ialdN (q := 11) (j := 0) (i := 1) dX9_writes_10 rfl hB rfl rfl rfl (by omega) (by decide) ?_
      refine g_eqi (v := nI (wd)) (by show m_wr _ _ _ _ _ = _; simp only [m_wr]; rw [if_neg (by omega)]; exact hw) ?_
      refine g_icmpN_ge (q := 14) (t := 53) dX9_writes_11 rfl (by decide) (by omega) (by omega) (fun _ => ?_) (fun c => absurd c (by omega))
      exact g_vret dX9_writes_53 rfl (⟨rfl, by rw [show i = wd by omega] at hB; exact hB⟩)
    | succ m ih =>
      intro i g hi hB
      refine g_iload_n (q := 3) dX9_writes_2 rfl rfl ?_
      refine g_aload_n (q := 4) dX9_writes_3 rfl rfl ?_
      refine gb_getf (q := 7) (j := 0) (i := 0) dX9_writes_4 rfl fl_X9_7 hB rfl rfl rfl rfl ?_
      refine g_iload_n (q := 8) dX9_writes_7 rfl rfl ?_
      refine g_iconst (q := 9) (v := (nI 3)) dX9_writes_8 rfl (by decide) ?_
      refine g_iaddN (q := 10) dX9_writes_9 rfl ?_
      refine gb_ialdN (q := 11) (j := 0) (i := 1) dX9_writes_10 rfl hB rfl rfl rfl (by omega) (by decide) ?_
      refine g_eqi (v := nI (wd)) (by show m_wr _ _ _ _ _ = _; simp only [m_wr]; rw [if_neg (by omega)]; exact hw) ?_
      refine g_icmpN_ge (q := 14) (t := 53) dX9_writes_11 rfl (by decide) (by omega) (by omega) (fun c => absurd c (by omega)) (fun _ => ?_)
      refine g_aload_n (q := 15) dX9_writes_14 rfl rfl ?_
      refine gb_getf (q := 18) (j := 0) (i := 0) dX9_writes_15 rfl fl_X9_7 hB rfl rfl rfl rfl ?_
      refine g_bipush (q := 20) (v := (nI 11)) dX9_writes_18 rfl (by decide) ?_
      refine g_bipush (q := 22) (v := (nI 16)) dX9_writes_20 rfl (by decide) ?_
      refine g_iload_n (q := 23) dX9_writes_22 rfl rfl ?_
      refine g_imulN (q := 24) dX9_writes_23 rfl ?_
      refine g_iaddN (q := 25) dX9_writes_24 rfl ?_
      refine g_aload_n (q := 26) dX9_writes_25 rfl rfl ?_
      refine gb_getf (q := 29) (j := 0) (i := 0) dX9_writes_26 rfl fl_X9_7 hB rfl rfl rfl rfl ?_
      refine g_iload_n (q := 30) dX9_writes_29 rfl rfl ?_
      refine g_iconst (q := 31) (v := (nI 2)) dX9_writes_30 rfl (by decide) ?_
      refine g_iaddN (q := 32) dX9_writes_31 rfl ?_
      refine gb_ialdN (q := 33) (j := 0) (i := 1) dX9_writes_32 rfl hB rfl rfl rfl (by omega) (by decide) ?_
      refine g_eqi (v := nI (ad)) (by show m_wr _ _ _ _ _ = _; simp only [m_wr]; rw [if_neg (by omega)]; exact ha) ?_
      refine g_iaddN (q := 34) dX9_writes_33 rfl ?_
      refine g_iload_n (q := 35) dX9_writes_34 rfl rfl ?_
      refine g_iaddN (q := 36) dX9_writes_35 rfl ?_
      refine g_aload_n (q := 37) dX9_writes_36 rfl rfl ?_
      refine gb_getf (q := 40) (j := 0) (i := 0) dX9_writes_37 rfl fl_X9_7 hB rfl rfl rfl rfl ?_
      refine g_iload_n (q := 41) dX9_writes_40 rfl rfl ?_
      refine g_iconst (q := 42) (v := (nI 4)) dX9_writes_41 rfl (by decide) ?_
      refine g_iaddN (q := 43) dX9_writes_42 rfl ?_
      refine gb_ialdN (q := 44) (j := 0) (i := 1) dX9_writes_43 rfl hB rfl rfl rfl (by omega) (by decide) ?_
      refine g_eqi (v := A 1 (e + 4)) (by show m_wr _ _ _ _ _ = _; simp only [m_wr]; rw [if_neg (by omega)]) ?_
      refine g_iload_n (q := 45) dX9_writes_44 rfl rfl ?_
      refine g_iadd (q := 46) dX9_writes_45 rfl ?_
      refine gb_iastN (q := 47) (j := 0) (i := 1) dX9_writes_46 rfl hB rfl rfl rfl (by omega) (by decide) (fun g hB => ?_)
      refine g_iincN (q := 50) (c := 1) dX9_writes_47 rfl (by decide) rfl rfl (by decide) ?_
      refine g_goto (q := 2) dX9_writes_50 (by decide) ?_
      refine g_lvs (lv1 := [(3, .int (nI (i + 1))), (0, .ref o), (1, .int (nI s)), (2, .int (nI e))]) ⟨rfl, rfl, rfl, rfl, trivial⟩ ?_
      refine ih (i + 1) g (by omega) ?_
      rw [← m_wrS]
      exact hB
  refine g_iconst (q := 1) (v := (nI 0)) dX9_writes_0 rfl (by decide) ?_
  refine g_istore_n (q := 2) rfl dX9_writes_1 rfl (by decide) rfl ?_
  refine g_lvs (lv1 := [(3, .int (nI 0)), (0, .ref o), (1, .int (nI s)), (2, .int (nI e))]) ⟨rfl, rfl, rfl, rfl, trivial⟩ ?_
  exact K wd 0 g (by omega) (by rw [m_wr0]; exact hB)
set_option maxRecDepth 20000 in
set_option maxHeartbeats 1000000 in
theorem c_mleaves {l : Launch} {E : bz_E} {L : List Nat} {g : Nat → va_E} {o : Nat} {I : Nat → Int32} {A : Nat → Nat → Int32} {fm k n : Nat} (hn : k < n) (hb : fm + 15 * n ≤ 2075) (hH : bz_H L g o (b_Mod E o I A)) : bz_K l E mX9_leaves 0 [.ref o, .int (nI fm), .int (nI k), .int (nI n)] L g (fun r g1 => r = none ∧ bz_B L g g1 [(o, b_Mod E o I (va_up A 1 (m_lv (A 1) (fm + 15 * k) (fm + 15 * (n - 1)))))]) := by
  refine bz_K.of (by decide) (bz_le rfl) (fun sz => ?_)
  show bz_G _ _ _ _ _ _ _ _ _ _ _ _ 0 [(0, .ref o), (1, .int (nI fm)), (2, .int (nI k)), (3, .int (nI n))] []
  have hB := bz_B.rf (bz_W.one hH)
  have K : ∀ (m i : Nat) (g1 : Nat → va_E), i + m = fm + 15 * (n - 1) → fm + 15 * k ≤ i → bz_B L g g1 [(o, b_Mod E o I (va_up A 1 (m_lv (A 1) (fm + 15 * k) i)))] → bz_G l E mX9_leaves (bz_R 0 0 0) L sz (bz_Fm E L sz (fun r g1 => r = none ∧ bz_B L g g1 [(o, b_Mod E o I (va_up A 1 (m_lv (A 1) (fm + 15 * k) (fm + 15 * (n - 1)))))])) sz 0 0 L g1 8 [(4, .int (nI i)), (0, .ref o), (1, .int (nI fm)), (2, .int (nI k)), (3, .int (nI n))] [] := by
    intro m
    induction m with
    | zero =>
      intro i g hi hki hB
      refine g_iload (q := 10) dX9_leaves_8 rfl rfl ?_
      refine g_iload_n (q := 11) dX9_leaves_10 rfl rfl ?_
      refine g_bipush (q := 13) (v := (nI 15)) dX9_leaves_11 rfl (by decide) ?_
      refine g_iload_n (q := 14) dX9_leaves_13 rfl rfl ?_
      refine g_iconst (q := 15) (v := (nI 1)) dX9_leaves_14 rfl (by decide) ?_
      refine g_isubN (q := 16) dX9_leaves_15 rfl (by omega) ?_
      refine g_imulN (q := 17) dX9_leaves_16 rfl ?_
      refine g_iaddN (q := 18) dX9_leaves_17 rfl ?_
      refine g_icmpN_ge (q := 21) (t := 44) dX9_leaves_18 rfl (by decide) (by omega) (by omega) (fun _ => ?_) (fun c => absurd c (by omega))
      exact g_vret dX9_leaves_44 rfl (⟨rfl, by rw [show i = fm + 15 * (n - 1) by omega] at hB; exact hB⟩)
    | succ m ih =>
      intro i g hi hki hB
      refine g_iload (q := 10) dX9_leaves_8 rfl rfl ?_
      refine g_iload_n (q := 11) dX9_leaves_10 rfl rfl ?_
      refine g_bipush (q := 13) (v := (nI 15)) dX9_leaves_11 rfl (by decide) ?_
      refine g_iload_n (q := 14) dX9_leaves_13 rfl rfl ?_
      refine g_iconst (q := 15) (v := (nI 1)) dX9_leaves_14 rfl (by decide) ?_
      refine g_isubN (q := 16) dX9_leaves_15 rfl (by omega) ?_
      refine g_imulN (q := 17) dX9_leaves_16 rfl ?_
      refine g_iaddN (q := 18) dX9_leaves_17 rfl ?_
      refine g_icmpN_ge (q := 21) (t := 44) dX9_leaves_18 rfl (by decide) (by omega) (by omega) (fun c => absurd c (by omega)) (fun _ => ?_)
      refine g_aload_n (q := 22) dX9_leaves_21 rfl rfl ?_
      refine gb_getf (q := 25) (j := 0) (i := 0) dX9_leaves_22 rfl fl_X9_7 hB rfl rfl rfl rfl ?_
      refine g_iload (q := 27) dX9_leaves_25 rfl rfl ?_
      refine g_aload_n (q := 28) dX9_leaves_27 rfl rfl ?_
      refine gb_getf (q := 31) (j := 0) (i := 0) dX9_leaves_28 rfl fl_X9_7 hB rfl rfl rfl rfl ?_
      refine g_iload (q := 33) dX9_leaves_31 rfl rfl ?_
      refine g_bipush (q := 35) (v := (nI 15)) dX9_leaves_33 rfl (by decide) ?_
      refine g_iaddN (q := 36) dX9_leaves_35 rfl ?_
      refine gb_ialdN (q := 37) (j := 0) (i := 1) dX9_leaves_36 rfl hB rfl rfl rfl (by omega) (by decide) ?_
      refine gb_iastN (q := 38) (j := 0) (i := 1) dX9_leaves_37 rfl hB rfl rfl rfl (by omega) (by decide) (fun g hB => ?_)
      refine g_iincN (q := 41) (c := 1) dX9_leaves_38 rfl (by decide) rfl rfl (by decide) ?_
      refine g_goto (q := 8) dX9_leaves_41 (by decide) ?_
      refine g_lvs (lv1 := [(4, .int (nI (i + 1))), (0, .ref o), (1, .int (nI fm)), (2, .int (nI k)), (3, .int (nI n))]) ⟨rfl, rfl, rfl, rfl, rfl, trivial⟩ ?_
      refine ih (i + 1) g (by omega) (by omega) ?_
      rw [← m_lvS (by omega)]
      exact hB
  refine g_iload_n (q := 1) dX9_leaves_0 rfl rfl ?_
  refine g_bipush (q := 3) (v := (nI 15)) dX9_leaves_1 rfl (by decide) ?_
  refine g_iload_n (q := 4) dX9_leaves_3 rfl rfl ?_
  refine g_imulN (q := 5) dX9_leaves_4 rfl ?_
  refine g_iaddN (q := 6) dX9_leaves_5 rfl ?_
  refine g_istore (q := 8) dX9_leaves_6 rfl (by decide) rfl ?_
  refine g_lvs (lv1 := [(4, .int (nI (fm + 15 * k))), (0, .ref o), (1, .int (nI fm)), (2, .int (nI k)), (3, .int (nI n))]) ⟨rfl, rfl, rfl, rfl, rfl, trivial⟩ ?_
  exact K (fm + 15 * (n - 1) - (fm + 15 * k)) (fm + 15 * k) g (by omega) (by omega) (by rw [m_lv0]; exact hB)
