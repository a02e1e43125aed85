/-! class BridgeText: tokens -/
abbrev b_T (E : bz_E) (o x n af tk tp : Nat) (nm er ep hs ht : Int32) (f0 pd : Nat → Int32) (pc op : Int32) : List va_E :=
  [.inr (0, [.ref x, .int (nI n), .int (nI af), .int (nI tk), .int (nI tp), .int nm, .int er, .int ep, .int hs, .int ht, .ref (o + 2), .int pc, .int op]), .inl (E.1.1 20, 0, .inl f0), .inl (E.1.1 21, 24, .inl pd)]
abbrev b_In (E : bz_E) (b : Nat → Nat) : List va_E := [.inl (E.1.1 20, 600, .inl (fun i => s8 (b i)))]
theorem tB_0 {c : Bool} (h : tB c = nI 0) : c = false := by cases c with | false => rfl | true => exact absurd h (by decide)
theorem tB_1 {c : Bool} (h : tB c ≠ nI 0) : c = true := by cases c with | true => rfl | false => exact absurd rfl h
set_option maxRecDepth 20000 in
set_option maxHeartbeats 1000000 in
theorem c_isSpace {l : Launch} {E : bz_E} {L : List Nat} {g : Nat → va_E} {v : Int32} : bz_K l E mX0_isSpace 0 [.int v] L g (fun r g1 => r = some (.int (k_sp v)) ∧ g1 = g) := by
  refine bz_K.of (by decide) (bz_le rfl) (fun sz => ?_)
  show bz_G _ _ _ _ _ _ _ _ _ _ _ _ 0 [(0, .int v)] []
  refine g_iload_n (q := 1) dX0_isSpace_0 rfl rfl ?_
  refine g_bipush (q := 3) (v := (nI 32)) dX0_isSpace_1 rfl (by decide) ?_
  refine g_icmp_eq (q := 6) (t := 12) dX0_isSpace_3 rfl (by decide) (fun c_3 => ?_) (fun c_3 => ?_)
  · refine g_iconst (q := 13) (v := (nI 1)) dX0_isSpace_12 rfl (by decide) ?_
    refine g_goto (q := 17) dX0_isSpace_13 (by decide) ?_
    exact g_zret dX0_isSpace_17 rfl rfl ⟨by simp [k_sp, *], rfl⟩
  · refine g_iload_n (q := 7) dX0_isSpace_6 rfl rfl ?_
    refine g_bipush (q := 9) (v := (nI 10)) dX0_isSpace_7 rfl (by decide) ?_
    refine g_icmp_ne (q := 12) (t := 16) dX0_isSpace_9 rfl (by decide) (fun c_9 => ?_) (fun c_9 => ?_)
    · refine g_iconst (q := 17) (v := (nI 0)) dX0_isSpace_16 rfl (by decide) ?_
      exact g_zret dX0_isSpace_17 rfl rfl ⟨by simp [k_sp, *], rfl⟩
    · refine g_iconst (q := 13) (v := (nI 1)) dX0_isSpace_12 rfl (by decide) ?_
      refine g_goto (q := 17) dX0_isSpace_13 (by decide) ?_
      exact g_zret dX0_isSpace_17 rfl rfl ⟨by simp [k_sp, *], rfl⟩
set_option maxRecDepth 20000 in
set_option maxHeartbeats 1000000 in
theorem c_isLetter {l : Launch} {E : bz_E} {L : List Nat} {g : Nat → va_E} {v : Int32} : bz_K l E mX0_isLetter 0 [.int v] L g (fun r g1 => r = some (.int (k_le v)) ∧ g1 = g) := by
  refine bz_K.of (by decide) (bz_le rfl) (fun sz => ?_)
  show bz_G _ _ _ _ _ _ _ _ _ _ _ _ 0 [(0, .int v)] []
  refine g_iload_n (q := 1) dX0_isLetter_0 rfl rfl ?_
  refine g_bipush (q := 3) (v := (nI 97)) dX0_isLetter_1 rfl (by decide) ?_
  refine g_icmp_lt (q := 6) (t := 16) dX0_isLetter_3 rfl (by decide) (fun c_3 => ?_) (fun c_3 => ?_)
  · refine g_iconst (q := 17) (v := (nI 0)) dX0_isLetter_16 rfl (by decide) ?_
    exact g_zret dX0_isLetter_17 rfl rfl ⟨by simp [k_le, *], rfl⟩
  · refine g_iload_n (q := 7) dX0_isLetter_6 rfl rfl ?_
    refine g_bipush (q := 9) (v := (nI 122)) dX0_isLetter_7 rfl (by decide) ?_
    refine g_icmp_gt (q := 12) (t := 16) dX0_isLetter_9 rfl (by decide) (fun c_9 => ?_) (fun c_9 => ?_)
    · refine g_iconst (q := 17) (v := (nI 0)) dX0_isLetter_16 rfl (by decide) ?_
      exact g_zret dX0_isLetter_17 rfl rfl ⟨by simp [k_le, *], rfl⟩
    · refine g_iconst (q := 13) (v := (nI 1)) dX0_isLetter_12 rfl (by decide) ?_
      refine g_goto (q := 17) dX0_isLetter_13 (by decide) ?_
      exact g_zret dX0_isLetter_17 rfl rfl ⟨by simp [k_le, *], rfl⟩
set_option maxRecDepth 20000 in
set_option maxHeartbeats 1000000 in
theorem c_isDigit {l : Launch} {E : bz_E} {L : List Nat} {g : Nat → va_E} {v : Int32} : bz_K l E mX0_isDigit 0 [.int v] L g (fun r g1 => r = some (.int (k_di v)) ∧ g1 = g) := by
  refine bz_K.of (by decide) (bz_le rfl) (fun sz => ?_)
  show bz_G _ _ _ _ _ _ _ _ _ _ _ _ 0 [(0, .int v)] []
  refine g_iload_n (q := 1) dX0_isDigit_0 rfl rfl ?_
  refine g_bipush (q := 3) (v := (nI 48)) dX0_isDigit_1 rfl (by decide) ?_
  refine g_icmp_lt (q := 6) (t := 16) dX0_isDigit_3 rfl (by decide) (fun c_3 => ?_) (fun c_3 => ?_)
  · refine g_iconst (q := 17) (v := (nI 0)) dX0_isDigit_16 rfl (by decide) ?_
    exact g_zret dX0_isDigit_17 rfl rfl ⟨by simp [k_di, *], rfl⟩
  · refine g_iload_n (q := 7) dX0_isDigit_6 rfl rfl ?_
    refine g_bipush (q := 9) (v := (nI 57)) dX0_isDigit_7 rfl (by decide) ?_
    refine g_icmp_gt (q := 12) (t := 16) dX0_isDigit_9 rfl (by decide) (fun c_9 => ?_) (fun c_9 => ?_)
    · refine g_iconst (q := 17) (v := (nI 0)) dX0_isDigit_16 rfl (by decide) ?_
      exact g_zret dX0_isDigit_17 rfl rfl ⟨by simp [k_di, *], rfl⟩
    · refine g_iconst (q := 13) (v := (nI 1)) dX0_isDigit_12 rfl (by decide) ?_
      refine g_goto (q := 17) dX0_isDigit_13 (by decide) ?_
      exact g_zret dX0_isDigit_17 rfl rfl ⟨by simp [k_di, *], rfl⟩
set_option maxRecDepth 20000 in
set_option maxHeartbeats 1000000 in
theorem c_rankOf {l : Launch} {E : bz_E} {L : List Nat} {g : Nat → va_E} {v : Int32} : bz_K l E mX0_rankOf 0 [.int v] L g (fun r g1 => r = some (.int (k_rk v)) ∧ g1 = g) := by
  refine bz_K.of (by decide) (bz_le rfl) (fun sz => ?_)
  show bz_G _ _ _ _ _ _ _ _ _ _ _ _ 0 [(0, .int v)] []
  refine g_iload_n (q := 1) dX0_rankOf_0 rfl rfl ?_
  refine g_bipush (q := 3) (v := (nI 43)) dX0_rankOf_1 rfl (by decide) ?_
  refine g_icmp_eq (q := 6) (t := 12) dX0_rankOf_3 rfl (by decide) (fun c_3 => ?_) (fun c_3 => ?_)
  · refine g_iconst (q := 13) (v := (nI 1)) dX0_rankOf_12 rfl (by decide) ?_
    exact g_iret dX0_rankOf_13 rfl (⟨by first | (simp [k_rk, *]; done) | (subst_vars; decide), rfl⟩)
  · refine g_iload_n (q := 7) dX0_rankOf_6 rfl rfl ?_
    refine g_bipush (q := 9) (v := (nI 45)) dX0_rankOf_7 rfl (by decide) ?_
    refine g_icmp_ne (q := 12) (t := 14) dX0_rankOf_9 rfl (by decide) (fun c_9 => ?_) (fun c_9 => ?_)
    · refine g_iload_n (q := 15) dX0_rankOf_14 rfl rfl ?_
      refine g_bipush (q := 17) (v := (nI 42)) dX0_rankOf_15 rfl (by decide) ?_
      refine g_icmp_eq (q := 20) (t := 32) dX0_rankOf_17 rfl (by decide) (fun c_17 => ?_) (fun c_17 => ?_)
      · refine g_iconst (q := 33) (v := (nI 2)) dX0_rankOf_32 rfl (by decide) ?_
        refine g_goto (q := 37) dX0_rankOf_33 (by decide) ?_
        exact g_iret dX0_rankOf_37 rfl (⟨by first | (simp [k_rk, *]; done) | (subst_vars; decide), rfl⟩)
      · refine g_iload_n (q := 21) dX0_rankOf_20 rfl rfl ?_
        refine g_bipush (q := 23) (v := (nI 47)) dX0_rankOf_21 rfl (by decide) ?_
        refine g_icmp_eq (q := 26) (t := 32) dX0_rankOf_23 rfl (by decide) (fun c_23 => ?_) (fun c_23 => ?_)
        · refine g_iconst (q := 33) (v := (nI 2)) dX0_rankOf_32 rfl (by decide) ?_
          refine g_goto (q := 37) dX0_rankOf_33 (by decide) ?_
          exact g_iret dX0_rankOf_37 rfl (⟨by first | (simp [k_rk, *]; done) | (subst_vars; decide), rfl⟩)
        · refine g_iload_n (q := 27) dX0_rankOf_26 rfl rfl ?_
          refine g_bipush (q := 29) (v := (nI 37)) dX0_rankOf_27 rfl (by decide) ?_
          refine g_icmp_ne (q := 32) (t := 36) dX0_rankOf_29 rfl (by decide) (fun c_29 => ?_) (fun c_29 => ?_)
          · refine g_iconst (q := 37) (v := (nI 0)) dX0_rankOf_36 rfl (by decide) ?_
            exact g_iret dX0_rankOf_37 rfl (⟨by first | (simp [k_rk, *]; done) | (subst_vars; decide), rfl⟩)
          · refine g_iconst (q := 33) (v := (nI 2)) dX0_rankOf_32 rfl (by decide) ?_
            refine g_goto (q := 37) dX0_rankOf_33 (by decide) ?_
            exact g_iret dX0_rankOf_37 rfl (⟨by first | (simp [k_rk, *]; done) | (subst_vars; decide), rfl⟩)
    · refine g_iconst (q := 13) (v := (nI 1)) dX0_rankOf_12 rfl (by decide) ?_
      exact g_iret dX0_rankOf_13 rfl (⟨by first | (simp [k_rk, *]; done) | (subst_vars; decide), rfl⟩)
set_option maxRecDepth 20000 in
set_option maxHeartbeats 1000000 in
theorem c_isSign {l : Launch} {E : bz_E} {L : List Nat} {g : Nat → va_E} {v : Int32} : bz_K l E mX0_isSign 1 [.int v] L g (fun r g1 => r = some (.int (k_sg v)) ∧ g1 = g) := by
  refine bz_K.of (by decide) (bz_le rfl) (fun sz => ?_)
  show bz_G _ _ _ _ _ _ _ _ _ _ _ _ 0 [(0, .int v)] []
  refine g_iload_n (q := 1) dX0_isSign_0 rfl rfl ?_
  refine g_bipush (q := 3) (v := (nI 59)) dX0_isSign_1 rfl (by decide) ?_
  refine g_icmp_eq (q := 6) (t := 25) dX0_isSign_3 rfl (by decide) (fun c_3 => ?_) (fun c_3 => ?_)
  · refine g_iconst (q := 26) (v := (nI 1)) dX0_isSign_25 rfl (by decide) ?_
    refine g_goto (q := 30) dX0_isSign_26 (by decide) ?_
    exact g_zret dX0_isSign_30 rfl rfl ⟨by simp [k_sg, *], rfl⟩
  · refine g_iload_n (q := 7) dX0_isSign_6 rfl rfl ?_
    refine g_bipush (q := 9) (v := (nI 40)) dX0_isSign_7 rfl (by decide) ?_
    refine g_icmp_eq (q := 12) (t := 25) dX0_isSign_9 rfl (by decide) (fun c_9 => ?_) (fun c_9 => ?_)
    · refine g_iconst (q := 26) (v := (nI 1)) dX0_isSign_25 rfl (by decide) ?_
      refine g_goto (q := 30) dX0_isSign_26 (by decide) ?_
      exact g_zret dX0_isSign_30 rfl rfl ⟨by simp [k_sg, *], rfl⟩
    · refine g_iload_n (q := 13) dX0_isSign_12 rfl rfl ?_
      refine g_bipush (q := 15) (v := (nI 41)) dX0_isSign_13 rfl (by decide) ?_
      refine g_icmp_eq (q := 18) (t := 25) dX0_isSign_15 rfl (by decide) (fun c_15 => ?_) (fun c_15 => ?_)
      · refine g_iconst (q := 26) (v := (nI 1)) dX0_isSign_25 rfl (by decide) ?_
        refine g_goto (q := 30) dX0_isSign_26 (by decide) ?_
        exact g_zret dX0_isSign_30 rfl rfl ⟨by simp [k_sg, *], rfl⟩
      · refine g_iload_n (q := 19) dX0_isSign_18 rfl rfl ?_
        refine g_callS (q := 22) dX0_isSign_19 rfl ks_X0_135 rfl (c_rankOf (v := v)) (by decide) rfl (bz_le rfl) (by decide) (by decide) (fun r g1 hQ => ?_)
        obtain ⟨rfl, hg⟩ := hQ
        have hg := hg.symm
        subst hg
        refine g_if_le (q := 25) (t := 29) dX0_isSign_22 rfl (by decide) (fun c_22 => ?_) (fun c_22 => ?_)
        · refine g_iconst (q := 30) (v := (nI 0)) dX0_isSign_29 rfl (by decide) ?_
          exact g_zret dX0_isSign_30 rfl rfl ⟨by simp [k_sg, *], rfl⟩
        · refine g_iconst (q := 26) (v := (nI 1)) dX0_isSign_25 rfl (by decide) ?_
          refine g_goto (q := 30) dX0_isSign_26 (by decide) ?_
          exact g_zret dX0_isSign_30 rfl rfl ⟨by simp [k_sg, *], rfl⟩
set_option maxRecDepth 20000 in
set_option maxHeartbeats 1000000 in
theorem c_byteAt {l : Launch} {E : bz_E} {L : List Nat} {g : Nat → va_E} {o x n : Nat} {b : Nat → Nat} {f0 pd : Nat → Int32} {af tk tp : Nat} {nm er ep hs ht pc op : Int32} {p : Nat} (hb : ∀ i, b i < 256) (hn : n ≤ 600) (hd : o + 3 ≤ x ∨ x + 1 ≤ o) (hX : bz_H L g x (b_In E b)) (hp : p < n) (hH : bz_H L g o (b_T E o x n af tk tp nm er ep hs ht f0 pd pc op)) : bz_K l E mX0_byteAt 0 [.ref o, .int (nI p)] L g (fun r g1 => r = some (.int (s8 (b p))) ∧ g1 = g) := by
  refine bz_K.of (by decide) (bz_le rfl) (fun sz => ?_)
  have hB := bz_B.rf (bz_W.two hH hX hd)
  show bz_G _ _ _ _ _ _ _ _ _ _ _ _ 0 [(0, .ref o), (1, .int (nI p))] []
  refine g_iload_n (q := 1) dX0_byteAt_0 rfl rfl ?_
  refine g_ifN_lt (q := 4) (t := 30) dX0_byteAt_1 rfl (by decide) (by omega) ?_
  refine g_iload_n (q := 5) dX0_byteAt_4 rfl rfl ?_
  refine g_aload_n (q := 6) dX0_byteAt_5 rfl rfl ?_
  refine gb_getf (q := 9) (j := 0) (i := 0) dX0_byteAt_6 rfl fl_X0_19 hB rfl rfl rfl rfl ?_
  refine g_icmpN_ge (q := 12) (t := 30) dX0_byteAt_9 rfl (by decide) (by omega) (by omega) (fun c => absurd c (by omega)) (fun _ => ?_)
  refine g_iload_n (q := 13) dX0_byteAt_12 rfl rfl ?_
  refine g_aload_n (q := 14) dX0_byteAt_13 rfl rfl ?_
  refine gb_getf (q := 17) (j := 0) (i := 0) dX0_byteAt_14 rfl fl_X0_9 hB rfl rfl rfl rfl ?_
  refine gb_alen (q := 18) (j := 1) (i := 0) (t0 := 0) dX0_byteAt_17 rfl hB rfl rfl rfl rfl ?_
  refine g_icmpN_ge (q := 21) (t := 30) dX0_byteAt_18 rfl (by decide) (by omega) (by omega) (fun c => absurd c (by omega)) (fun _ => ?_)
  refine g_aload_n (q := 22) dX0_byteAt_21 rfl rfl ?_
  refine gb_getf (q := 25) (j := 0) (i := 0) dX0_byteAt_22 rfl fl_X0_9 hB rfl rfl rfl rfl ?_
  refine g_iload_n (q := 26) dX0_byteAt_25 rfl rfl ?_
  refine gb_baldN (q := 27) (j := 1) (i := 0) dX0_byteAt_26 rfl hB rfl rfl rfl (by omega) (by decide) ?_
  refine g_goto (q := 31) dX0_byteAt_27 (by decide) ?_
  exact g_iret dX0_byteAt_31 rfl (⟨rfl, rfl⟩)
set_option maxRecDepth 20000 in
set_option maxHeartbeats 1000000 in
theorem c_byteAt1 {l : Launch} {E : bz_E} {L : List Nat} {g : Nat → va_E} {o x n : Nat} {b : Nat → Nat} {f0 pd : Nat → Int32} {af tk tp : Nat} {nm er ep hs ht pc op : Int32} {p : Nat} (hb : ∀ i, b i < 256) (hn : n ≤ 600) (hd : o + 3 ≤ x ∨ x + 1 ≤ o) (hX : bz_H L g x (b_In E b)) (hp : n ≤ p) (hp2 : p ≤ 600) (hH : bz_H L g o (b_T E o x n af tk tp nm er ep hs ht f0 pd pc op)) : bz_K l E mX0_byteAt 0 [.ref o, .int (nI p)] L g (fun r g1 => r = some (.int (nI 0)) ∧ g1 = g) := by
  refine bz_K.of (by decide) (bz_le rfl) (fun sz => ?_)
  have hB := bz_B.rf (bz_W.two hH hX hd)
  show bz_G _ _ _ _ _ _ _ _ _ _ _ _ 0 [(0, .ref o), (1, .int (nI p))] []
  refine g_iload_n (q := 1) dX0_byteAt_0 rfl rfl ?_
  refine g_ifN_lt (q := 4) (t := 30) dX0_byteAt_1 rfl (by decide) (by omega) ?_
  refine g_iload_n (q := 5) dX0_byteAt_4 rfl rfl ?_
  refine g_aload_n (q := 6) dX0_byteAt_5 rfl rfl ?_
  refine gb_getf (q := 9) (j := 0) (i := 0) dX0_byteAt_6 rfl fl_X0_19 hB rfl rfl rfl rfl ?_
  refine g_icmpN_ge (q := 12) (t := 30) dX0_byteAt_9 rfl (by decide) (by omega) (by omega) (fun _ => ?_) (fun c => absurd c (by omega))
  refine g_iconst (q := 31) (v := (nI 0)) dX0_byteAt_30 rfl (by decide) ?_
  exact g_iret dX0_byteAt_31 rfl (⟨rfl, rfl⟩)
set_option maxRecDepth 20000 in
set_option maxHeartbeats 1000000 in
theorem c_stepOverWord {l : Launch} {E : bz_E} {L : List Nat} {g : Nat → va_E} {o x n : Nat} {b : Nat → Nat} {f0 pd : Nat → Int32} {tk tp : Nat} {nm er ep hs ht pc op : Int32} (hb : ∀ i, b i < 256) (hn : n ≤ 600) (hd : o + 3 ≤ x ∨ x + 1 ≤ o) (hX : bz_H L g x (b_In E b)) (htp : tp ≤ n) (hH : bz_H L g o (b_T E o x n tp tk tp nm er ep hs ht f0 pd pc op)) : bz_K l E mX0_stepOverWord 1 [.ref o] L g (fun r g1 => r = none ∧ ∃ k : Nat, bz_B L g g1 [(o, (b_T E o x n (t_end (fun i => t_le (b i)) n tp) k tp nm er ep hs ht f0 pd pc op))] ∧ k = if t_end (fun i => t_le (b i)) n tp - tp ≤ 8 then 2 else 1) := by
  refine bz_K.of (by decide) (bz_le rfl) (fun sz => ?_)
  show bz_G _ _ _ _ _ _ _ _ _ _ _ _ 0 [(0, .ref o)] []
  have hB := bz_B.rf (bz_W.two hH hX hd)
  have hle := t_end_le (f := fun i => t_le (b i)) (n := n) (p := tp) htp
  have KE : ∀ g1 : Nat → va_E, bz_B L g g1 [(o, (b_T E o x n (t_end (fun i => t_le (b i)) n tp) tk tp nm er ep hs ht f0 pd pc op)), (x, b_In E b)] → bz_G l E mX0_stepOverWord (bz_R 1 0 0) L sz (bz_Fm E L sz (fun r g1 => r = none ∧ ∃ k : Nat, bz_B L g g1 [(o, (b_T E o x n (t_end (fun i => t_le (b i)) n tp) k tp nm er ep hs ht f0 pd pc op))] ∧ k = if t_end (fun i => t_le (b i)) n tp - tp ≤ 8 then 2 else 1)) sz 0 0 L g1 38 [(0, .ref o)] [] := by
    intro g2 hB
    refine g_aload_n (q := 39) dX0_stepOverWord_38 rfl rfl ?_
    refine g_aload_n (q := 40) dX0_stepOverWord_39 rfl rfl ?_
    refine gb_getf (q := 43) (j := 0) (i := 0) dX0_stepOverWord_40 rfl fl_X0_23 hB rfl rfl rfl rfl ?_
    refine g_aload_n (q := 44) dX0_stepOverWord_43 rfl rfl ?_
    refine gb_getf (q := 47) (j := 0) (i := 0) dX0_stepOverWord_44 rfl fl_X0_57 hB rfl rfl rfl rfl ?_
    refine g_isubN (q := 48) dX0_stepOverWord_47 rfl (by omega) ?_
    refine g_bipush (q := 50) (v := (nI 8)) dX0_stepOverWord_48 rfl (by decide) ?_
    refine g_icmpN_gt (q := 53) (t := 57) dX0_stepOverWord_50 rfl (by decide) (by omega) (by omega) (fun c_50 => ?_) (fun c_50 => ?_)
    · refine g_iconst (q := 58) (v := (nI 1)) dX0_stepOverWord_57 rfl (by decide) ?_
      refine gb_putf (q := 61) (j := 0) (i := 0) dX0_stepOverWord_58 rfl fp_X0_47 hB rfl rfl rfl (bz_le rfl) rfl rfl (fun g hB => ?_)
      exact g_vret dX0_stepOverWord_61 rfl (⟨rfl, _, hB.fst hX, (if_neg (by omega)).symm⟩)
    · refine g_iconst (q := 54) (v := (nI 2)) dX0_stepOverWord_53 rfl (by decide) ?_
      refine g_goto (q := 58) dX0_stepOverWord_54 (by decide) ?_
      refine gb_putf (q := 61) (j := 0) (i := 0) dX0_stepOverWord_58 rfl fp_X0_47 hB rfl rfl rfl (bz_le rfl) rfl rfl (fun g hB => ?_)
      exact g_vret dX0_stepOverWord_61 rfl (⟨rfl, _, hB.fst hX, (if_pos (by omega)).symm⟩)
  have K : ∀ (m q : Nat) (g1 : Nat → va_E), n - q = m → tp ≤ q → q ≤ n → t_end (fun i => t_le (b i)) n q = t_end (fun i => t_le (b i)) n tp → bz_B L g g1 [(o, (b_T E o x n q tk tp nm er ep hs ht f0 pd pc op)), (x, b_In E b)] → bz_G l E mX0_stepOverWord (bz_R 1 0 0) L sz (bz_Fm E L sz (fun r g1 => r = none ∧ ∃ k : Nat, bz_B L g g1 [(o, (b_T E o x n (t_end (fun i => t_le (b i)) n tp) k tp nm er ep hs ht f0 pd pc op))] ∧ k = if t_end (fun i => t_le (b i)) n tp - tp ≤ 8 then 2 else 1)) sz 0 0 L g1 0 [(0, .ref o)] [] := by
    intro m
    induction m with
    | zero =>
      intro q g2 hm h1 h2 he hB
      have hq : q = t_end (fun i => t_le (b i)) n tp := by rw [← he]; exact (t_end_out (f := fun i => t_le (b i)) (by omega)).symm
      refine g_aload_n (q := 1) dX0_stepOverWord_0 rfl rfl ?_
      refine gb_getf (q := 4) (j := 0) (i := 0) dX0_stepOverWord_1 rfl fl_X0_23 hB rfl rfl rfl rfl ?_
      refine g_aload_n (q := 5) dX0_stepOverWord_4 rfl rfl ?_
      refine gb_getf (q := 8) (j := 0) (i := 0) dX0_stepOverWord_5 rfl fl_X0_19 hB rfl rfl rfl rfl ?_
      refine g_icmpN_ge (q := 11) (t := 38) dX0_stepOverWord_8 rfl (by decide) (by omega) (by omega) (fun _ => ?_) (fun c => absurd c (by omega))
      subst hq
      exact KE _ hB
    | succ m ih =>
    intro q g2 hm h1 h2 he hB
    refine g_aload_n (q := 1) dX0_stepOverWord_0 rfl rfl ?_
    refine gb_getf (q := 4) (j := 0) (i := 0) dX0_stepOverWord_1 rfl fl_X0_23 hB rfl rfl rfl rfl ?_
    refine g_aload_n (q := 5) dX0_stepOverWord_4 rfl rfl ?_
    refine gb_getf (q := 8) (j := 0) (i := 0) dX0_stepOverWord_5 rfl fl_X0_19 hB rfl rfl rfl rfl ?_
    refine g_icmpN_ge (q := 11) (t := 38) dX0_stepOverWord_8 rfl (by decide) (by omega) (by omega) (fun c_8 => ?_) (fun c_8 => ?_)
    · have hq : q = t_end (fun i => t_le (b i)) n tp := by rw [← he]; exact (t_end_out (f := fun i => t_le (b i)) (by omega)).symm
      subst hq
      exact KE _ hB
    · refine g_aload_n (q := 12) dX0_stepOverWord_11 rfl rfl ?_
      refine g_aload_n (q := 13) dX0_stepOverWord_12 rfl rfl ?_
      refine gb_getf (q := 16) (j := 0) (i := 0) dX0_stepOverWord_13 rfl fl_X0_23 hB rfl rfl rfl rfl ?_
      refine gb_callV (q := 19) (j := 0) (i := 0) dX0_stepOverWord_16 rfl kv_X0_172 (c_byteAt (p := q) hb hn hd (hB.1.at (j := 1) rfl) (by omega) (hB.1.at (j := 0) rfl)) rfl (by decide) hB rfl rfl rfl rfl (bz_le rfl) (by decide) (by decide) (fun r g1 hQ => ?_)
      obtain ⟨rfl, hg⟩ := hQ
      have hg := hg.symm
      subst hg
      refine g_callS (q := 22) dX0_stepOverWord_19 rfl ks_X0_183 rfl (c_isLetter (v := s8 (b q))) (by decide) rfl (bz_le rfl) (by decide) (by decide) (fun r g1 hQ => ?_)
      obtain ⟨rfl, hg⟩ := hQ
      have hg := hg.symm
      subst hg
      refine g_eqi (v := tB (t_le (b q))) (k_le_c _ (hb q)) ?_
      refine g_if_eq (q := 25) (t := 38) dX0_stepOverWord_22 rfl (by decide) (fun c_22 => ?_) (fun c_22 => ?_)
      · have hq : q = t_end (fun i => t_le (b i)) n tp := by rw [← he]; exact (t_end_stop (f := fun i => t_le (b i)) (tB_0 c_22)).symm
        subst hq
        exact KE _ hB
      · refine g_aload_n (q := 26) dX0_stepOverWord_25 rfl rfl ?_
        refine g_dup (q := 27) dX0_stepOverWord_26 rfl rfl ?_
        refine gb_getf (q := 30) (j := 0) (i := 0) dX0_stepOverWord_27 rfl fl_X0_23 hB rfl rfl rfl rfl ?_
        refine g_iconst (q := 31) (v := (nI 1)) dX0_stepOverWord_30 rfl (by decide) ?_
        refine g_iaddN (q := 32) dX0_stepOverWord_31 rfl ?_
        refine gb_putf (q := 35) (j := 0) (i := 0) dX0_stepOverWord_32 rfl fp_X0_23 hB rfl rfl rfl (bz_le rfl) rfl rfl (fun g hB => ?_)
        refine g_goto (q := 0) dX0_stepOverWord_35 (by decide) ?_
        refine ih (q + 1) _ (by omega) (by omega) (by omega) (by rw [← he]; exact (t_end_go (f := fun i => t_le (b i)) (by omega) (tB_1 c_22)).symm) hB
  exact K _ tp _ rfl (Nat.le_refl _) htp rfl hB

