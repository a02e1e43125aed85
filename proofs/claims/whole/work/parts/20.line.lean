/-! class Line and the helpers of the outer class: contracts in functions of the cells -/
abbrev b_Line (E : bz_E) (o : Nat) (f c : Nat → Int32) (z : Int32) : List va_E := [.inr (2, [.ref (o + 1), .ref (o + 2), .int z]), .inl (E.1.1 21, 352, .inl f), .inl (E.1.1 21, 4, .inl c)]

set_option maxRecDepth 20000 in
set_option maxHeartbeats 1000000 in
theorem c_cellOf {l : Launch} {E : bz_E} {L : List Nat} {g : Nat → va_E} {a N i : Nat} {f : Nat → Int32} (hi : i < N) (hN : N < 2 ^ 31) (hH : bz_H L g a [.inl (E.1.1 21, N, .inl f)]) : bz_K l E mX8_cellOf 0 [.ref a, .int (nI i)] L g (fun r g1 => r = some (.int (f i)) ∧ g1 = g) := by
  refine bz_K.of (by decide) (bz_le rfl) (fun sz => ?_)
  have hB := bz_B.rf (bz_W.one hH)
  show bz_G _ _ _ _ _ _ _ _ _ _ _ _ 0 [(0, .ref a), (1, .int (nI i))] []
  refine g_iload_n (q := 1) dX8_cellOf_0 rfl rfl ?_
  refine g_ifN_lt (q := 4) (t := 16) dX8_cellOf_1 rfl (by decide) (by omega) ?_
  refine g_iload_n (q := 5) dX8_cellOf_4 rfl rfl ?_
  refine g_aload_n (q := 6) dX8_cellOf_5 rfl rfl ?_
  refine gb_alen (q := 7) (j := 0) (i := 0) (t0 := 1) dX8_cellOf_6 rfl hB rfl rfl rfl rfl ?_
  refine g_icmpN_ge (q := 10) (t := 16) dX8_cellOf_7 rfl (by decide) (by omega) (by omega) (fun c => absurd c (by omega)) (fun _ => ?_)
  refine g_aload_n (q := 11) dX8_cellOf_10 rfl rfl ?_
  refine g_iload_n (q := 12) dX8_cellOf_11 rfl rfl ?_
  refine gb_ialdN (q := 13) (j := 0) (i := 0) dX8_cellOf_12 rfl hB rfl rfl rfl (by omega) hN ?_
  refine g_goto (q := 17) dX8_cellOf_13 (by decide) ?_
  exact g_iret dX8_cellOf_17 rfl (⟨rfl, rfl⟩)
set_option maxRecDepth 20000 in
set_option maxHeartbeats 1000000 in
theorem c_hasBit {l : Launch} {E : bz_E} {L : List Nat} {g : Nat → va_E} {x b : Int32} : bz_K l E mX8_hasBit 0 [.int x, .int b] L g (fun r g1 => r = some (.int (if (x >>> (b &&& 31)) &&& 1 = 1 then 1 else 0)) ∧ g1 = g) := by
  refine bz_K.of (by decide) (bz_le rfl) (fun sz => ?_)
  show bz_G _ _ _ _ _ _ _ _ _ _ _ _ 0 [(0, .int x), (1, .int b)] []
  refine g_iload_n (q := 1) dX8_hasBit_0 rfl rfl ?_
  refine g_iload_n (q := 2) dX8_hasBit_1 rfl rfl ?_
  refine g_ishr (q := 3) dX8_hasBit_2 rfl ?_
  refine g_iconst (q := 4) (v := 1) dX8_hasBit_3 rfl (by decide) ?_
  refine g_iand (q := 5) dX8_hasBit_4 rfl ?_
  refine g_iconst (q := 6) (v := 1) dX8_hasBit_5 rfl (by decide) ?_
  refine g_icmp_ne (q := 9) (t := 13) dX8_hasBit_6 rfl (by decide) (fun c_6 => ?_) (fun c_6 => ?_)
  · refine g_iconst (q := 14) (v := 0) dX8_hasBit_13 rfl (by decide) ?_
    exact g_zret dX8_hasBit_14 rfl rfl ⟨by simp [*], rfl⟩
  · refine g_iconst (q := 10) (v := 1) dX8_hasBit_9 rfl (by decide) ?_
    refine g_goto (q := 14) dX8_hasBit_10 (by decide) ?_
    exact g_zret dX8_hasBit_14 rfl rfl ⟨by simp [*], rfl⟩
set_option maxRecDepth 20000 in
set_option maxHeartbeats 1000000 in
theorem c_get {l : Launch} {E : bz_E} {L : List Nat} {g : Nat → va_E} {o p x : Nat} {f c : Nat → Int32} {z : Int32} (hx : p * 11 + x < 352) (hH : bz_H L g o (b_Line E o f c z)) : bz_K l E mX2_get 0 [.ref o, .int (nI p), .int (nI x)] L g (fun r g1 => r = some (.int (f (p * 11 + x))) ∧ g1 = g) := by
  refine bz_K.of (by decide) (bz_le rfl) (fun sz => ?_)
  have hB := bz_B.rf (bz_W.one hH)
  show bz_G _ _ _ _ _ _ _ _ _ _ _ _ 0 [(0, .ref o), (1, .int (nI p)), (2, .int (nI x))] []
  refine g_iload_n (q := 1) dX2_get_0 rfl rfl ?_
  refine g_bipush (q := 3) (v := (nI 11)) dX2_get_1 rfl (by decide) ?_
  refine g_imulN (q := 4) dX2_get_3 rfl ?_
  refine g_iload_n (q := 5) dX2_get_4 rfl rfl ?_
  refine g_iaddN (q := 6) dX2_get_5 rfl ?_
  refine g_istore_n (q := 7) rfl dX2_get_6 rfl (by decide) rfl ?_
  refine g_iload_n (q := 8) dX2_get_7 rfl rfl ?_
  refine g_ifN_lt (q := 11) (t := 29) dX2_get_8 rfl (by decide) (by omega) ?_
  refine g_iload_n (q := 12) dX2_get_11 rfl rfl ?_
  refine g_aload_n (q := 13) dX2_get_12 rfl rfl ?_
  refine gb_getf (q := 16) (j := 0) (i := 0) dX2_get_13 rfl fl_X2_11 hB rfl rfl rfl rfl ?_
  refine gb_alen (q := 17) (j := 0) (i := 1) (t0 := 1) dX2_get_16 rfl hB rfl rfl rfl rfl ?_
  refine g_icmpN_ge (q := 20) (t := 29) dX2_get_17 rfl (by decide) (by omega) (by omega) (fun c => absurd c (by omega)) (fun _ => ?_)
  refine g_aload_n (q := 21) dX2_get_20 rfl rfl ?_
  refine gb_getf (q := 24) (j := 0) (i := 0) dX2_get_21 rfl fl_X2_11 hB rfl rfl rfl rfl ?_
  refine g_iload_n (q := 25) dX2_get_24 rfl rfl ?_
  refine gb_ialdN (q := 26) (j := 0) (i := 1) dX2_get_25 rfl hB rfl rfl rfl (by omega) (by decide) ?_
  refine g_goto (q := 30) dX2_get_26 (by decide) ?_
  exact g_iret dX2_get_30 rfl (⟨rfl, rfl⟩)
set_option maxRecDepth 20000 in
set_option maxHeartbeats 1000000 in
theorem c_put {l : Launch} {E : bz_E} {L : List Nat} {g : Nat → va_E} {o p x : Nat} {f c : Nat → Int32} {z v : Int32} (hx : p * 11 + x < 352) (hH : bz_H L g o (b_Line E o f c z)) : bz_K l E mX2_put 0 [.ref o, .int (nI p), .int (nI x), .int v] L g (fun r g1 => r = none ∧ bz_B L g g1 [(o, b_Line E o (upd f (p * 11 + x) v) c z)]) := by
  refine bz_K.of (by decide) (bz_le rfl) (fun sz => ?_)
  have hB := bz_B.rf (bz_W.one hH)
  show bz_G _ _ _ _ _ _ _ _ _ _ _ _ 0 [(0, .ref o), (1, .int (nI p)), (2, .int (nI x)), (3, .int v)] []
  refine g_iload_n (q := 1) dX2_put_0 rfl rfl ?_
  refine g_bipush (q := 3) (v := (nI 11)) dX2_put_1 rfl (by decide) ?_
  refine g_imulN (q := 4) dX2_put_3 rfl ?_
  refine g_iload_n (q := 5) dX2_put_4 rfl rfl ?_
  refine g_iaddN (q := 6) dX2_put_5 rfl ?_
  refine g_istore (q := 8) dX2_put_6 rfl (by decide) rfl ?_
  refine g_iload (q := 10) dX2_put_8 rfl rfl ?_
  refine g_ifN_lt (q := 13) (t := 31) dX2_put_10 rfl (by decide) (by omega) ?_
  refine g_iload (q := 15) dX2_put_13 rfl rfl ?_
  refine g_aload_n (q := 16) dX2_put_15 rfl rfl ?_
  refine gb_getf (q := 19) (j := 0) (i := 0) dX2_put_16 rfl fl_X2_11 hB rfl rfl rfl rfl ?_
  refine gb_alen (q := 20) (j := 0) (i := 1) (t0 := 1) dX2_put_19 rfl hB rfl rfl rfl rfl ?_
  refine g_icmpN_ge (q := 23) (t := 31) dX2_put_20 rfl (by decide) (by omega) (by omega) (fun c => absurd c (by omega)) (fun _ => ?_)
  refine g_aload_n (q := 24) dX2_put_23 rfl rfl ?_
  refine gb_getf (q := 27) (j := 0) (i := 0) dX2_put_24 rfl fl_X2_11 hB rfl rfl rfl rfl ?_
  refine g_iload (q := 29) dX2_put_27 rfl rfl ?_
  refine g_iload_n (q := 30) dX2_put_29 rfl rfl ?_
  refine gb_iastN (q := 31) (j := 0) (i := 1) dX2_put_30 rfl hB rfl rfl rfl (by omega) (by decide) (fun g hB => ?_)
  exact g_vret dX2_put_31 rfl (⟨rfl, hB⟩)
set_option maxRecDepth 20000 in
set_option maxHeartbeats 1000000 in
theorem c_countOf {l : Launch} {E : bz_E} {L : List Nat} {g : Nat → va_E} {o k : Nat} {f c : Nat → Int32} {z : Int32} (hk : k < 4) (hH : bz_H L g o (b_Line E o f c z)) : bz_K l E mX2_countOf 1 [.ref o, .int (nI k)] L g (fun r g1 => r = some (.int (c k)) ∧ g1 = g) := by
  refine bz_K.of (by decide) (bz_le rfl) (fun sz => ?_)
  have hB := bz_B.rf (bz_W.one hH)
  show bz_G _ _ _ _ _ _ _ _ _ _ _ _ 0 [(0, .ref o), (1, .int (nI k))] []
  refine g_aload_n (q := 1) dX2_countOf_0 rfl rfl ?_
  refine gb_getf (q := 4) (j := 0) (i := 0) dX2_countOf_1 rfl fl_X2_15 hB rfl rfl rfl rfl ?_
  refine g_iload_n (q := 5) dX2_countOf_4 rfl rfl ?_
  refine g_callN (q := 8) dX2_countOf_5 rfl kn_X2_38 rfl (c_cellOf hk (by decide) (hH.sub 2 rfl)) (by decide) rfl (bz_le rfl) (by decide) (by decide) (fun r g1 hQ => ?_)
  obtain ⟨rfl, hg⟩ := hQ
  have hg := hg.symm
  subst hg
  exact g_iret dX2_countOf_8 rfl (⟨rfl, rfl⟩)
set_option maxRecDepth 20000 in
set_option maxHeartbeats 1000000 in
theorem c_isRelaxed {l : Launch} {E : bz_E} {L : List Nat} {g : Nat → va_E} {o p : Nat} {f c : Nat → Int32} {z : Int32} (hp : p < 32) (hH : bz_H L g o (b_Line E o f c z)) : bz_K l E mX2_isRelaxed 1 [.ref o, .int (nI p)] L g (fun r g1 => r = some (.int (if f (p * 11 + 2) = 1 then 1 else 0)) ∧ g1 = g) := by
  refine bz_K.of (by decide) (bz_le rfl) (fun sz => ?_)
  have hB := bz_B.rf (bz_W.one hH)
  show bz_G _ _ _ _ _ _ _ _ _ _ _ _ 0 [(0, .ref o), (1, .int (nI p))] []
  refine g_aload_n (q := 1) dX2_isRelaxed_0 rfl rfl ?_
  refine g_iload_n (q := 2) dX2_isRelaxed_1 rfl rfl ?_
  refine g_iconst (q := 3) (v := (nI 2)) dX2_isRelaxed_2 rfl (by decide) ?_
  refine gb_callV (q := 6) (j := 0) (i := 0) dX2_isRelaxed_3 rfl kv_X2_34 (c_get (x := 2) (by omega) hH) rfl (by decide) hB rfl rfl rfl rfl (bz_le rfl) (by decide) (by decide) (fun r g1 hQ => ?_)
  obtain ⟨rfl, hg⟩ := hQ
  have hg := hg.symm
  subst hg
  refine g_iconst (q := 7) (v := (nI 1)) dX2_isRelaxed_6 rfl (by decide) ?_
  refine g_icmp_ne (q := 10) (t := 14) dX2_isRelaxed_7 rfl (by decide) (fun c_7 => ?_) (fun c_7 => ?_)
  · refine g_iconst (q := 15) (v := (nI 0)) dX2_isRelaxed_14 rfl (by decide) ?_
    exact g_zret dX2_isRelaxed_15 rfl rfl ⟨by rw [show (nI 1 : Int32) = 1 from rfl] at c_7; simp [c_7]; try rfl, rfl⟩
  · refine g_iconst (q := 11) (v := (nI 1)) dX2_isRelaxed_10 rfl (by decide) ?_
    refine g_goto (q := 15) dX2_isRelaxed_11 (by decide) ?_
    exact g_zret dX2_isRelaxed_15 rfl rfl ⟨by rw [show (nI 1 : Int32) = 1 from rfl] at c_7; simp [c_7]; try rfl, rfl⟩
set_option maxRecDepth 20000 in
set_option maxHeartbeats 1000000 in
theorem c_count {l : Launch} {E : bz_E} {L : List Nat} {g : Nat → va_E} {o k : Nat} {f c : Nat → Int32} {z m : Int32} (hk : k < 4) (hH : bz_H L g o (b_Line E o f c z)) : bz_K l E mX2_count 0 [.ref o, .int (nI k), .int m] L g (fun r g1 => r = none ∧ bz_B L g g1 [(o, b_Line E o f (upd c k (c k + m)) z)]) := by
  refine bz_K.of (by decide) (bz_le rfl) (fun sz => ?_)
  have hB := bz_B.rf (bz_W.one hH)
  show bz_G _ _ _ _ _ _ _ _ _ _ _ _ 0 [(0, .ref o), (1, .int (nI k)), (2, .int m)] []
  refine g_iload_n (q := 1) dX2_count_0 rfl rfl ?_
  refine g_ifN_lt (q := 4) (t := 23) dX2_count_1 rfl (by decide) (by omega) ?_
  refine g_iload_n (q := 5) dX2_count_4 rfl rfl ?_
  refine g_aload_n (q := 6) dX2_count_5 rfl rfl ?_
  refine gb_getf (q := 9) (j := 0) (i := 0) dX2_count_6 rfl fl_X2_15 hB rfl rfl rfl rfl ?_
  refine gb_alen (q := 10) (j := 0) (i := 2) (t0 := 1) dX2_count_9 rfl hB rfl rfl rfl rfl ?_
  refine g_icmpN_ge (q := 13) (t := 23) dX2_count_10 rfl (by decide) (by omega) (by omega) (fun c => absurd c (by omega)) (fun _ => ?_)
  refine g_aload_n (q := 14) dX2_count_13 rfl rfl ?_
  refine gb_getf (q := 17) (j := 0) (i := 0) dX2_count_14 rfl fl_X2_15 hB rfl rfl rfl rfl ?_
  refine g_iload_n (q := 18) dX2_count_17 rfl rfl ?_
  refine g_dup2 (q := 19) dX2_count_18 rfl rfl rfl ?_
  refine gb_ialdN (q := 20) (j := 0) (i := 2) dX2_count_19 rfl hB rfl rfl rfl (by omega) (by decide) ?_
  refine g_iload_n (q := 21) dX2_count_20 rfl rfl ?_
  refine g_iadd (q := 22) dX2_count_21 rfl ?_
  refine gb_iastN (q := 23) (j := 0) (i := 2) dX2_count_22 rfl hB rfl rfl rfl (by omega) (by decide) (fun g hB => ?_)
  exact g_vret dX2_count_23 rfl (⟨rfl, hB⟩)
def v_open (f : Nat → Int32) (n k : Nat) (tag rel ad wd tm : Int32) : Nat → Int32 := upd (upd (upd (upd (upd (upd (upd f (n * 11 + 0) (nI k)) (n * 11 + 1) tag) (n * 11 + 2) rel) (n * 11 + 3) ad) (n * 11 + 4) wd) (n * 11 + 5) tm) (n * 11 + 6) (nI 0)
set_option maxRecDepth 20000 in
set_option maxHeartbeats 1000000 in
theorem c_open {l : Launch} {E : bz_E} {L : List Nat} {g : Nat → va_E} {o n k : Nat} {f c : Nat → Int32} {tag rel ad wd tm : Int32} (hn : n < 32) (hk : k < 4) (hrel : rel = 0 ∨ rel = 1) (hH : bz_H L g o (b_Line E o f c (nI n))) : bz_K l E mX2_open 0 [.ref o, .int (nI k), .int tag, .int rel, .int ad, .int wd, .int tm] L g (fun r g1 => r = some (.int (nI n)) ∧ bz_B L g g1 [(o, b_Line E o (v_open f n k tag rel ad wd tm) (upd c k (c k + nI 1)) (nI (n + 1)))]) := by
  refine bz_K.of (by decide) (bz_le rfl) (fun sz => ?_)
  have hB := bz_B.rf (bz_W.one hH)
  show bz_G _ _ _ _ _ _ _ _ _ _ _ _ 0 [(0, .ref o), (1, .int (nI k)), (2, .int tag), (3, .int rel), (4, .int ad), (5, .int wd), (6, .int tm)] []
  refine g_aload_n (q := 1) dX2_open_0 rfl rfl ?_
  refine gb_getf (q := 4) (j := 0) (i := 0) dX2_open_1 rfl fl_X2_18 hB rfl rfl rfl rfl ?_
  refine g_bipush (q := 6) (v := (nI 11)) dX2_open_4 rfl (by decide) ?_
  refine g_imulN (q := 7) dX2_open_6 rfl ?_
  refine g_istore (q := 9) dX2_open_7 rfl (by decide) rfl ?_
  refine g_aload_n (q := 10) dX2_open_9 rfl rfl ?_
  refine gb_getf (q := 13) (j := 0) (i := 0) dX2_open_10 rfl fl_X2_18 hB rfl rfl rfl rfl ?_
  refine g_ifN_lt (q := 16) (t := 34) dX2_open_13 rfl (by decide) (by omega) ?_
  refine g_aload_n (q := 17) dX2_open_16 rfl rfl ?_
  refine gb_getf (q := 20) (j := 0) (i := 0) dX2_open_17 rfl fl_X2_18 hB rfl rfl rfl rfl ?_
  refine g_bipush (q := 22) (v := (nI 32)) dX2_open_20 rfl (by decide) ?_
  refine g_icmpN_ge (q := 25) (t := 34) dX2_open_22 rfl (by decide) (by omega) (by omega) (fun c => absurd c (by omega)) (fun _ => ?_)
  refine g_iload_n (q := 26) dX2_open_25 rfl rfl ?_
  refine g_ifN_lt (q := 29) (t := 34) dX2_open_26 rfl (by decide) (by omega) ?_
  refine g_iload_n (q := 30) dX2_open_29 rfl rfl ?_
  refine g_iconst (q := 31) (v := (nI 4)) dX2_open_30 rfl (by decide) ?_
  refine g_icmpN_lt (q := 34) (t := 36) dX2_open_31 rfl (by decide) (by omega) (by omega) (fun _ => ?_) (fun c => absurd c (by omega))
  refine g_aload_n (q := 37) dX2_open_36 rfl rfl ?_
  refine gb_getf (q := 40) (j := 0) (i := 0) dX2_open_37 rfl fl_X2_11 hB rfl rfl rfl rfl ?_
  refine g_iload (q := 42) dX2_open_40 rfl rfl ?_
  refine g_iconst (q := 43) (v := (nI 0)) dX2_open_42 rfl (by decide) ?_
  refine g_iaddN (q := 44) dX2_open_43 rfl ?_
  refine g_iload_n (q := 45) dX2_open_44 rfl rfl ?_
  refine gb_iastN (q := 46) (j := 0) (i := 1) dX2_open_45 rfl hB rfl rfl rfl (by omega) (by decide) (fun g hB => ?_)
  refine g_aload_n (q := 47) dX2_open_46 rfl rfl ?_
  refine gb_getf (q := 50) (j := 0) (i := 0) dX2_open_47 rfl fl_X2_11 hB rfl rfl rfl rfl ?_
  refine g_iload (q := 52) dX2_open_50 rfl rfl ?_
  refine g_iconst (q := 53) (v := (nI 1)) dX2_open_52 rfl (by decide) ?_
  refine g_iaddN (q := 54) dX2_open_53 rfl ?_
  refine g_iload_n (q := 55) dX2_open_54 rfl rfl ?_
  refine gb_iastN (q := 56) (j := 0) (i := 1) dX2_open_55 rfl hB rfl rfl rfl (by omega) (by decide) (fun g hB => ?_)
  refine g_aload_n (q := 57) dX2_open_56 rfl rfl ?_
  refine gb_getf (q := 60) (j := 0) (i := 0) dX2_open_57 rfl fl_X2_11 hB rfl rfl rfl rfl ?_
  refine g_iload (q := 62) dX2_open_60 rfl rfl ?_
  refine g_iconst (q := 63) (v := (nI 2)) dX2_open_62 rfl (by decide) ?_
  refine g_iaddN (q := 64) dX2_open_63 rfl ?_
  refine g_iload_n (q := 65) dX2_open_64 rfl rfl ?_
  refine g_if_eq (q := 68) (t := 72) dX2_open_65 rfl (by decide) (fun c_65 => ?_) (fun c_65 => ?_)
  · refine g_iconst (q := 73) (v := (nI 0)) dX2_open_72 rfl (by decide) ?_
    refine gb_iastN (q := 74) (j := 0) (i := 1) dX2_open_73 rfl hB rfl rfl rfl (by omega) (by decide) (fun g hB => ?_)
    refine g_aload_n (q := 75) dX2_open_74 rfl rfl ?_
    refine gb_getf (q := 78) (j := 0) (i := 0) dX2_open_75 rfl fl_X2_11 hB rfl rfl rfl rfl ?_
    refine g_iload (q := 80) dX2_open_78 rfl rfl ?_
    refine g_iconst (q := 81) (v := (nI 3)) dX2_open_80 rfl (by decide) ?_
    refine g_iaddN (q := 82) dX2_open_81 rfl ?_
    refine g_iload (q := 84) dX2_open_82 rfl rfl ?_
    refine gb_iastN (q := 85) (j := 0) (i := 1) dX2_open_84 rfl hB rfl rfl rfl (by omega) (by decide) (fun g hB => ?_)
    refine g_aload_n (q := 86) dX2_open_85 rfl rfl ?_
    refine gb_getf (q := 89) (j := 0) (i := 0) dX2_open_86 rfl fl_X2_11 hB rfl rfl rfl rfl ?_
    refine g_iload (q := 91) dX2_open_89 rfl rfl ?_
    refine g_iconst (q := 92) (v := (nI 4)) dX2_open_91 rfl (by decide) ?_
    refine g_iaddN (q := 93) dX2_open_92 rfl ?_
    refine g_iload (q := 95) dX2_open_93 rfl rfl ?_
    refine gb_iastN (q := 96) (j := 0) (i := 1) dX2_open_95 rfl hB rfl rfl rfl (by omega) (by decide) (fun g hB => ?_)
    refine g_aload_n (q := 97) dX2_open_96 rfl rfl ?_
    refine gb_getf (q := 100) (j := 0) (i := 0) dX2_open_97 rfl fl_X2_11 hB rfl rfl rfl rfl ?_
    refine g_iload (q := 102) dX2_open_100 rfl rfl ?_
    refine g_iconst (q := 103) (v := (nI 5)) dX2_open_102 rfl (by decide) ?_
    refine g_iaddN (q := 104) dX2_open_103 rfl ?_
    refine g_iload (q := 106) dX2_open_104 rfl rfl ?_
    refine gb_iastN (q := 107) (j := 0) (i := 1) dX2_open_106 rfl hB rfl rfl rfl (by omega) (by decide) (fun g hB => ?_)
    refine g_aload_n (q := 108) dX2_open_107 rfl rfl ?_
    refine gb_getf (q := 111) (j := 0) (i := 0) dX2_open_108 rfl fl_X2_11 hB rfl rfl rfl rfl ?_
    refine g_iload (q := 113) dX2_open_111 rfl rfl ?_
    refine g_bipush (q := 115) (v := (nI 6)) dX2_open_113 rfl (by decide) ?_
    refine g_iaddN (q := 116) dX2_open_115 rfl ?_
    refine g_iconst (q := 117) (v := (nI 0)) dX2_open_116 rfl (by decide) ?_
    refine gb_iastN (q := 118) (j := 0) (i := 1) dX2_open_117 rfl hB rfl rfl rfl (by omega) (by decide) (fun g hB => ?_)
    refine g_aload_n (q := 119) dX2_open_118 rfl rfl ?_
    refine gb_getf (q := 122) (j := 0) (i := 0) dX2_open_119 rfl fl_X2_15 hB rfl rfl rfl rfl ?_
    refine g_iload_n (q := 123) dX2_open_122 rfl rfl ?_
    refine g_dup2 (q := 124) dX2_open_123 rfl rfl rfl ?_
    refine gb_ialdN (q := 125) (j := 0) (i := 2) dX2_open_124 rfl hB rfl rfl rfl (by omega) (by decide) ?_
    refine g_iconst (q := 126) (v := (nI 1)) dX2_open_125 rfl (by decide) ?_
    refine g_iadd (q := 127) dX2_open_126 rfl ?_
    refine gb_iastN (q := 128) (j := 0) (i := 2) dX2_open_127 rfl hB rfl rfl rfl (by omega) (by decide) (fun g hB => ?_)
    refine g_aload_n (q := 129) dX2_open_128 rfl rfl ?_
    refine g_dup (q := 130) dX2_open_129 rfl rfl ?_
    refine gb_getf (q := 133) (j := 0) (i := 0) dX2_open_130 rfl fl_X2_18 hB rfl rfl rfl rfl ?_
    refine g_iconst (q := 134) (v := (nI 1)) dX2_open_133 rfl (by decide) ?_
    refine g_iaddN (q := 135) dX2_open_134 rfl ?_
    refine gb_putf (q := 138) (j := 0) (i := 0) dX2_open_135 rfl fp_X2_18 hB rfl rfl rfl (bz_le rfl) rfl rfl (fun g hB => ?_)
    refine g_aload_n (q := 139) dX2_open_138 rfl rfl ?_
    refine gb_getf (q := 142) (j := 0) (i := 0) dX2_open_139 rfl fl_X2_18 hB rfl rfl rfl rfl ?_
    refine g_iconst (q := 143) (v := (nI 1)) dX2_open_142 rfl (by decide) ?_
    refine g_isubN (q := 144) dX2_open_143 rfl (by omega) ?_
    exact g_iret dX2_open_144 rfl (⟨rfl, by first | (subst c_65; exact hB) | (have e := hrel.resolve_left c_65; subst e; exact hB)⟩)
  · refine g_iconst (q := 69) (v := (nI 1)) dX2_open_68 rfl (by decide) ?_
    refine g_goto (q := 73) dX2_open_69 (by decide) ?_
    refine gb_iastN (q := 74) (j := 0) (i := 1) dX2_open_73 rfl hB rfl rfl rfl (by omega) (by decide) (fun g hB => ?_)
    refine g_aload_n (q := 75) dX2_open_74 rfl rfl ?_
    refine gb_getf (q := 78) (j := 0) (i := 0) dX2_open_75 rfl fl_X2_11 hB rfl rfl rfl rfl ?_
    refine g_iload (q := 80) dX2_open_78 rfl rfl ?_
    refine g_iconst (q := 81) (v := (nI 3)) dX2_open_80 rfl (by decide) ?_
    refine g_iaddN (q := 82) dX2_open_81 rfl ?_
    refine g_iload (q := 84) dX2_open_82 rfl rfl ?_
    refine gb_iastN (q := 85) (j := 0) (i := 1) dX2_open_84 rfl hB rfl rfl rfl (by omega) (by decide) (fun g hB => ?_)
    refine g_aload_n (q := 86) dX2_open_85 rfl rfl ?_
    refine gb_getf (q := 89) (j := 0) (i := 0) dX2_open_86 rfl fl_X2_11 hB rfl rfl rfl rfl ?_
    refine g_iload (q := 91) dX2_open_89 rfl rfl ?_
    refine g_iconst (q := 92) (v := (nI 4)) dX2_open_91 rfl (by decide) ?_
    refine g_iaddN (q := 93) dX2_open_92 rfl ?_
    refine g_iload (q := 95) dX2_open_93 rfl rfl ?_
    refine gb_iastN (q := 96) (j := 0) (i := 1) dX2_open_95 rfl hB rfl rfl rfl (by omega) (by decide) (fun g hB => ?_)
    refine g_aload_n (q := 97) dX2_open_96 rfl rfl ?_
    refine gb_getf (q := 100) (j := 0) (i := 0) dX2_open_97 rfl fl_X2_11 hB rfl rfl rfl rfl ?_
    refine g_iload (q := 102) dX2_open_100 rfl rfl ?_
    refine g_iconst (q := 103) (v := (nI 5)) dX2_open_102 rfl (by decide) ?_
    refine g_iaddN (q := 104) dX2_open_103 rfl ?_
    refine g_iload (q := 106) dX2_open_104 rfl rfl ?_
    refine gb_iastN (q := 107) (j := 0) (i := 1) dX2_open_106 rfl hB rfl rfl rfl (by omega) (by decide) (fun g hB => ?_)
    refine g_aload_n (q := 108) dX2_open_107 rfl rfl ?_
    refine gb_getf (q := 111) (j := 0) (i := 0) dX2_open_108 rfl fl_X2_11 hB rfl rfl rfl rfl ?_
    refine g_iload (q := 113) dX2_open_111 rfl rfl ?_
    refine g_bipush (q := 115) (v := (nI 6)) dX2_open_113 rfl (by decide) ?_
    refine g_iaddN (q := 116) dX2_open_115 rfl ?_
    refine g_iconst (q := 117) (v := (nI 0)) dX2_open_116 rfl (by decide) ?_
    refine gb_iastN (q := 118) (j := 0) (i := 1) dX2_open_117 rfl hB rfl rfl rfl (by omega) (by decide) (fun g hB => ?_)
    refine g_aload_n (q := 119) dX2_open_118 rfl rfl ?_
    refine gb_getf (q := 122) (j := 0) (i := 0) dX2_open_119 rfl fl_X2_15 hB rfl rfl rfl rfl ?_
    refine g_iload_n (q := 123) dX2_open_122 rfl rfl ?_
    refine g_dup2 (q := 124) dX2_open_123 rfl rfl rfl ?_
    refine gb_ialdN (q := 125) (j := 0) (i := 2) dX2_open_124 rfl hB rfl rfl rfl (by omega) (by decide) ?_
    refine g_iconst (q := 126) (v := (nI 1)) dX2_open_125 rfl (by decide) ?_
    refine g_iadd (q := 127) dX2_open_126 rfl ?_
    refine gb_iastN (q := 128) (j := 0) (i := 2) dX2_open_127 rfl hB rfl rfl rfl (by omega) (by decide) (fun g hB => ?_)
    refine g_aload_n (q := 129) dX2_open_128 rfl rfl ?_
    refine g_dup (q := 130) dX2_open_129 rfl rfl ?_
    refine gb_getf (q := 133) (j := 0) (i := 0) dX2_open_130 rfl fl_X2_18 hB rfl rfl rfl rfl ?_
    refine g_iconst (q := 134) (v := (nI 1)) dX2_open_133 rfl (by decide) ?_
    refine g_iaddN (q := 135) dX2_open_134 rfl ?_
    refine gb_putf (q := 138) (j := 0) (i := 0) dX2_open_135 rfl fp_X2_18 hB rfl rfl rfl (bz_le rfl) rfl rfl (fun g hB => ?_)
    refine g_aload_n (q := 139) dX2_open_138 rfl rfl ?_
    refine gb_getf (q := 142) (j := 0) (i := 0) dX2_open_139 rfl fl_X2_18 hB rfl rfl rfl rfl ?_
    refine g_iconst (q := 143) (v := (nI 1)) dX2_open_142 rfl (by decide) ?_
    refine g_isubN (q := 144) dX2_open_143 rfl (by omega) ?_
    exact g_iret dX2_open_144 rfl (⟨rfl, by first | (subst c_65; exact hB) | (have e := hrel.resolve_left c_65; subst e; exact hB)⟩)
def v_vals (f : Nat → Int32) (p : Nat) (v : Int32) : Nat → Int32 := upd (upd (upd (upd f (p * 11 + (7 + 0)) (v + nI 0)) (p * 11 + (7 + 1)) (v + nI 1)) (p * 11 + (7 + 2)) (v + nI 2)) (p * 11 + (7 + 3)) (v + nI 3)
set_option maxRecDepth 20000 in
set_option maxHeartbeats 1000000 in
theorem c_putValues {l : Launch} {E : bz_E} {L : List Nat} {g : Nat → va_E} {o p : Nat} {f c : Nat → Int32} {z v : Int32} (hp : p < 32) (hH : bz_H L g o (b_Line E o f c z)) : bz_K l E mX2_putValues 1 [.ref o, .int (nI p), .int v] L g (fun r g1 => r = none ∧ bz_B L g g1 [(o, b_Line E o (v_vals f p v) c z)]) := by
  refine bz_K.of (by decide) (bz_le rfl) (fun sz => ?_)
  have hB := bz_B.rf (bz_W.one hH)
  show bz_G _ _ _ _ _ _ _ _ _ _ _ _ 0 [(0, .ref o), (1, .int (nI p)), (2, .int v)] []
  refine g_iconst (q := 1) (v := (nI 0)) dX2_putValues_0 rfl (by decide) ?_
  refine g_istore_n (q := 2) rfl dX2_putValues_1 rfl (by decide) rfl ?_
  refine g_iload_n (q := 3) dX2_putValues_2 rfl rfl ?_
  refine g_iconst (q := 4) (v := (nI 4)) dX2_putValues_3 rfl (by decide) ?_
  refine g_icmpN_ge (q := 7) (t := 25) dX2_putValues_4 rfl (by decide) (by omega) (by omega) (fun c => absurd c (by omega)) (fun _ => ?_)
  refine g_aload_n (q := 8) dX2_putValues_7 rfl rfl ?_
  refine g_iload_n (q := 9) dX2_putValues_8 rfl rfl ?_
  refine g_bipush (q := 11) (v := (nI 7)) dX2_putValues_9 rfl (by decide) ?_
  refine g_iload_n (q := 12) dX2_putValues_11 rfl rfl ?_
  refine g_iaddN (q := 13) dX2_putValues_12 rfl ?_
  refine g_iload_n (q := 14) dX2_putValues_13 rfl rfl ?_
  refine g_iload_n (q := 15) dX2_putValues_14 rfl rfl ?_
  refine g_iadd (q := 16) dX2_putValues_15 rfl ?_
  refine gb_callV (q := 19) (j := 0) (i := 0) dX2_putValues_16 rfl kv_X2_42 (c_put (by omega) (hB.1.at (j := 0) rfl)) rfl (by decide) hB rfl rfl rfl rfl (bz_le rfl) (by decide) (by decide) (fun r g1 hQ => ?_)
  obtain ⟨rfl, h1⟩ := hQ
  have hB := hB.sp (j := 0) rfl 0 rfl h1 (bz_le rfl)
  refine g_iincN (q := 22) (c := 1) dX2_putValues_19 rfl (by decide) rfl rfl (by decide) ?_
  refine g_goto (q := 2) dX2_putValues_22 (by decide) ?_
  refine g_iload_n (q := 3) dX2_putValues_2 rfl rfl ?_
  refine g_iconst (q := 4) (v := (nI 4)) dX2_putValues_3 rfl (by decide) ?_
  refine g_icmpN_ge (q := 7) (t := 25) dX2_putValues_4 rfl (by decide) (by omega) (by omega) (fun c => absurd c (by omega)) (fun _ => ?_)
  refine g_aload_n (q := 8) dX2_putValues_7 rfl rfl ?_
  refine g_iload_n (q := 9) dX2_putValues_8 rfl rfl ?_
  refine g_bipush (q := 11) (v := (nI 7)) dX2_putValues_9 rfl (by decide) ?_
  refine g_iload_n (q := 12) dX2_putValues_11 rfl rfl ?_
  refine g_iaddN (q := 13) dX2_putValues_12 rfl ?_
  refine g_iload_n (q := 14) dX2_putValues_13 rfl rfl ?_
  refine g_iload_n (q := 15) dX2_putValues_14 rfl rfl ?_
  refine g_iadd (q := 16) dX2_putValues_15 rfl ?_
  refine gb_callV (q := 19) (j := 0) (i := 0) dX2_putValues_16 rfl kv_X2_42 (c_put (by omega) (hB.1.at (j := 0) rfl)) rfl (by decide) hB rfl rfl rfl rfl (bz_le rfl) (by decide) (by decide) (fun r g1 hQ => ?_)
  obtain ⟨rfl, h1⟩ := hQ
  have hB := hB.sp (j := 0) rfl 0 rfl h1 (bz_le rfl)
  refine g_iincN (q := 22) (c := 1) dX2_putValues_19 rfl (by decide) rfl rfl (by decide) ?_
  refine g_goto (q := 2) dX2_putValues_22 (by decide) ?_
  refine g_iload_n (q := 3) dX2_putValues_2 rfl rfl ?_
  refine g_iconst (q := 4) (v := (nI 4)) dX2_putValues_3 rfl (by decide) ?_
  refine g_icmpN_ge (q := 7) (t := 25) dX2_putValues_4 rfl (by decide) (by omega) (by omega) (fun c => absurd c (by omega)) (fun _ => ?_)
  refine g_aload_n (q := 8) dX2_putValues_7 rfl rfl ?_
  refine g_iload_n (q := 9) dX2_putValues_8 rfl rfl ?_
  refine g_bipush (q := 11) (v := (nI 7)) dX2_putValues_9 rfl (by decide) ?_
  refine g_iload_n (q := 12) dX2_putValues_11 rfl rfl ?_
  refine g_iaddN (q := 13) dX2_putValues_12 rfl ?_
  refine g_iload_n (q := 14) dX2_putValues_13 rfl rfl ?_
  refine g_iload_n (q := 15) dX2_putValues_14 rfl rfl ?_
  refine g_iadd (q := 16) dX2_putValues_15 rfl ?_
  refine gb_callV (q := 19) (j := 0) (i := 0) dX2_putValues_16 rfl kv_X2_42 (c_put (by omega) (hB.1.at (j := 0) rfl)) rfl (by decide) hB rfl rfl rfl rfl (bz_le rfl) (by decide) (by decide) (fun r g1 hQ => ?_)
  obtain ⟨rfl, h1⟩ := hQ
  have hB := hB.sp (j := 0) rfl 0 rfl h1 (bz_le rfl)
  refine g_iincN (q := 22) (c := 1) dX2_putValues_19 rfl (by decide) rfl rfl (by decide) ?_
  refine g_goto (q := 2) dX2_putValues_22 (by decide) ?_
  refine g_iload_n (q := 3) dX2_putValues_2 rfl rfl ?_
  refine g_iconst (q := 4) (v := (nI 4)) dX2_putValues_3 rfl (by decide) ?_
  refine g_icmpN_ge (q := 7) (t := 25) dX2_putValues_4 rfl (by decide) (by omega) (by omega) (fun c => absurd c (by omega)) (fun _ => ?_)
  refine g_aload_n (q := 8) dX2_putValues_7 rfl rfl ?_
  refine g_iload_n (q := 9) dX2_putValues_8 rfl rfl ?_
  refine g_bipush (q := 11) (v := (nI 7)) dX2_putValues_9 rfl (by decide) ?_
  refine g_iload_n (q := 12) dX2_putValues_11 rfl rfl ?_
  refine g_iaddN (q := 13) dX2_putValues_12 rfl ?_
  refine g_iload_n (q := 14) dX2_putValues_13 rfl rfl ?_
  refine g_iload_n (q := 15) dX2_putValues_14 rfl rfl ?_
  refine g_iadd (q := 16) dX2_putValues_15 rfl ?_
  refine gb_callV (q := 19) (j := 0) (i := 0) dX2_putValues_16 rfl kv_X2_42 (c_put (by omega) (hB.1.at (j := 0) rfl)) rfl (by decide) hB rfl rfl rfl rfl (bz_le rfl) (by decide) (by decide) (fun r g1 hQ => ?_)
  obtain ⟨rfl, h1⟩ := hQ
  have hB := hB.sp (j := 0) rfl 0 rfl h1 (bz_le rfl)
  refine g_iincN (q := 22) (c := 1) dX2_putValues_19 rfl (by decide) rfl rfl (by decide) ?_
  refine g_goto (q := 2) dX2_putValues_22 (by decide) ?_
  refine g_iload_n (q := 3) dX2_putValues_2 rfl rfl ?_
  refine g_iconst (q := 4) (v := (nI 4)) dX2_putValues_3 rfl (by decide) ?_
  refine g_icmpN_ge (q := 7) (t := 25) dX2_putValues_4 rfl (by decide) (by omega) (by omega) (fun _ => ?_) (fun c => absurd c (by omega))
  exact g_vret dX2_putValues_25 rfl (⟨rfl, hB⟩)
set_option maxRecDepth 20000 in
set_option maxHeartbeats 1000000 in
theorem c_remove {l : Launch} {E : bz_E} {L : List Nat} {g : Nat → va_E} {o p n kd : Nat} {f c : Nat → Int32} (hp : p < n) (hn : n ≤ 32) (hk : f (p * 11 + 0) = nI kd) (hkd : kd < 4) (hH : bz_H L g o (b_Line E o f c (nI n))) : bz_K l E mX2_remove 1 [.ref o, .int (nI p)] L g (fun r g1 => r = none ∧ bz_B L g g1 [(o, b_Line E o (va_cpy f f ((p + 1) * 11) (p * 11) ((n - 1 - p) * 11)) (upd c kd (c kd + (-1))) (nI (n - 1)))]) := by
  refine bz_K.of (by decide) (bz_le rfl) (fun sz => ?_)
  have hB := bz_B.rf (bz_W.one hH)
  show bz_G _ _ _ _ _ _ _ _ _ _ _ _ 0 [(0, .ref o), (1, .int (nI p))] []
  refine g_iload_n (q := 1) dX2_remove_0 rfl rfl ?_
  refine g_ifN_lt (q := 4) (t := 21) dX2_remove_1 rfl (by decide) (by omega) ?_
  refine g_iload_n (q := 5) dX2_remove_4 rfl rfl ?_
  refine g_aload_n (q := 6) dX2_remove_5 rfl rfl ?_
  refine gb_getf (q := 9) (j := 0) (i := 0) dX2_remove_6 rfl fl_X2_18 hB rfl rfl rfl rfl ?_
  refine g_icmpN_ge (q := 12) (t := 21) dX2_remove_9 rfl (by decide) (by omega) (by omega) (fun c => absurd c (by omega)) (fun _ => ?_)
  refine g_aload_n (q := 13) dX2_remove_12 rfl rfl ?_
  refine gb_getf (q := 16) (j := 0) (i := 0) dX2_remove_13 rfl fl_X2_18 hB rfl rfl rfl rfl ?_
  refine g_bipush (q := 18) (v := (nI 32)) dX2_remove_16 rfl (by decide) ?_
  refine g_icmpN_le (q := 21) (t := 22) dX2_remove_18 rfl (by decide) (by omega) (by omega) (fun _ => ?_) (fun c => absurd c (by omega))
  refine g_aload_n (q := 23) dX2_remove_22 rfl rfl ?_
  refine g_aload_n (q := 24) dX2_remove_23 rfl rfl ?_
  refine g_iload_n (q := 25) dX2_remove_24 rfl rfl ?_
  refine g_iconst (q := 26) (v := (nI 0)) dX2_remove_25 rfl (by decide) ?_
  refine gb_callV (q := 29) (j := 0) (i := 0) dX2_remove_26 rfl kv_X2_34 (c_get (x := 0) (by omega) hH) rfl (by decide) hB rfl rfl rfl rfl (bz_le rfl) (by decide) (by decide) (fun r g1 hQ => ?_)
  obtain ⟨rfl, hg⟩ := hQ
  have hg := hg.symm
  subst hg
  refine g_eqi (v := nI (kd)) (hk) ?_
  refine g_iconst (q := 30) (v := (-1)) dX2_remove_29 rfl (by decide) ?_
  refine gb_callV (q := 33) (j := 0) (i := 0) dX2_remove_30 rfl kv_X2_46 (c_count hkd (hB.1.at (j := 0) rfl)) rfl (by decide) hB rfl rfl rfl rfl (bz_le rfl) (by decide) (by decide) (fun r g1 hQ => ?_)
  obtain ⟨rfl, h1⟩ := hQ
  have hB := hB.sp (j := 0) rfl 0 rfl h1 (bz_le rfl)
  refine g_aload_n (q := 34) dX2_remove_33 rfl rfl ?_
  refine g_dup (q := 35) dX2_remove_34 rfl rfl ?_
  refine gb_getf (q := 38) (j := 0) (i := 0) dX2_remove_35 rfl fl_X2_18 hB rfl rfl rfl rfl ?_
  refine g_iconst (q := 39) (v := (nI 1)) dX2_remove_38 rfl (by decide) ?_
  refine g_isubN (q := 40) dX2_remove_39 rfl (by omega) ?_
  refine gb_putf (q := 43) (j := 0) (i := 0) dX2_remove_40 rfl fp_X2_18 hB rfl rfl rfl (bz_le rfl) rfl rfl (fun g hB => ?_)
  refine g_aload_n (q := 44) dX2_remove_43 rfl rfl ?_
  refine gb_getf (q := 47) (j := 0) (i := 0) dX2_remove_44 rfl fl_X2_18 hB rfl rfl rfl rfl ?_
  refine g_iload_n (q := 48) dX2_remove_47 rfl rfl ?_
  refine g_isubN (q := 49) dX2_remove_48 rfl (by omega) ?_
  refine g_bipush (q := 51) (v := (nI 11)) dX2_remove_49 rfl (by decide) ?_
  refine g_imulN (q := 52) dX2_remove_51 rfl ?_
  refine g_istore_n (q := 53) rfl dX2_remove_52 rfl (by decide) rfl ?_
  refine g_aload_n (q := 54) dX2_remove_53 rfl rfl ?_
  refine gb_getf (q := 57) (j := 0) (i := 0) dX2_remove_54 rfl fl_X2_11 hB rfl rfl rfl rfl ?_
  refine g_iload_n (q := 58) dX2_remove_57 rfl rfl ?_
  refine g_iconst (q := 59) (v := (nI 1)) dX2_remove_58 rfl (by decide) ?_
  refine g_iaddN (q := 60) dX2_remove_59 rfl ?_
  refine g_bipush (q := 62) (v := (nI 11)) dX2_remove_60 rfl (by decide) ?_
  refine g_imulN (q := 63) dX2_remove_62 rfl ?_
  refine g_aload_n (q := 64) dX2_remove_63 rfl rfl ?_
  refine gb_getf (q := 67) (j := 0) (i := 0) dX2_remove_64 rfl fl_X2_11 hB rfl rfl rfl rfl ?_
  refine g_iload_n (q := 68) dX2_remove_67 rfl rfl ?_
  refine g_bipush (q := 70) (v := (nI 11)) dX2_remove_68 rfl (by decide) ?_
  refine g_imulN (q := 71) dX2_remove_70 rfl ?_
  refine g_iload_n (q := 72) dX2_remove_71 rfl rfl ?_
  refine gb_copyi (q := 75) (j0 := 0) (i0 := 1) (j1 := 0) (i1 := 1) dX2_remove_72 rfl kc_X2_28 (by decide) (bz_le rfl) hB rfl rfl rfl rfl rfl rfl (by omega) (by omega) (by decide) (by decide) (fun g hB => ?_)
  exact g_vret dX2_remove_75 rfl (⟨rfl, hB⟩)
def v_fill (f : Nat → Int32) (v : Int32) (i : Nat) : Nat → Int32 := fun k => if k < i then v else f k
theorem v_fill0 (f : Nat → Int32) (v : Int32) : v_fill f v 0 = f := by funext k; simp [v_fill]
theorem v_fillS (f : Nat → Int32) (v : Int32) (i : Nat) : upd (v_fill f v i) i v = v_fill f v (i + 1) := by
  funext k
  by_cases h : k = i
  · subst h; simp [upd, v_fill]
  · simp only [upd, v_fill, h, ↓reduceIte]
    by_cases h2 : k < i
    · rw [if_pos h2, if_pos (by omega)]
    · rw [if_neg h2, if_neg (by omega)]
set_option maxRecDepth 20000 in
set_option maxHeartbeats 1000000 in
theorem c_fill {l : Launch} {E : bz_E} {L : List Nat} {g : Nat → va_E} {a N : Nat} {f : Nat → Int32} {v : Int32} (hN : N < 2 ^ 31) (hH : bz_H L g a [.inl (E.1.1 21, N, .inl f)]) : bz_K l E mJ7_fill_53178 0 [.ref a, .int v] L g (fun r g1 => r = none ∧ bz_B L g g1 [(a, [.inl (E.1.1 21, N, .inl (v_fill f v N))])]) := by
  refine bz_K.of (by decide) (bz_le rfl) (fun sz => ?_)
  have hB := bz_B.rf (bz_W.one hH)
  show bz_G _ _ _ _ _ _ _ _ _ _ _ _ 0 [(0, .ref a), (1, .int v)] []
  have K : ∀ (m i : Nat) (g1 : Nat → va_E), i + m = N → bz_B L g g1 [(a, [.inl (E.1.1 21, N, .inl (v_fill f v i))])] → bz_G l E mJ7_fill_53178 (bz_R 0 0 0) L sz (bz_Fm E L sz (fun r g1 => r = none ∧ bz_B L g g1 [(a, [.inl (E.1.1 21, N, .inl (v_fill f v N))])])) sz 0 0 L g1 5 [(2, .int (nI i)), (3, .int (nI N)), (0, .ref a), (1, .int v)] [] := by
    intro m
    induction m with
    | zero =>
      intro i g hi hB
      refine g_iload_n (q := 6) dJ7_fill_53178_5 rfl rfl ?_
      refine g_iload_n (q := 7) dJ7_fill_53178_6 rfl rfl ?_
      refine g_icmpN_ge (q := 10) (t := 20) dJ7_fill_53178_7 rfl (by decide) (by omega) (by omega) (fun _ => ?_) (fun c => absurd c (by omega))
      exact g_vret dJ7_fill_53178_20 rfl (⟨rfl, by rw [show i = N by omega] at hB; exact hB⟩)
    | succ m ih =>
      intro i g hi hB
      refine g_iload_n (q := 6) dJ7_fill_53178_5 rfl rfl ?_
      refine g_iload_n (q := 7) dJ7_fill_53178_6 rfl rfl ?_
      refine g_icmpN_ge (q := 10) (t := 20) dJ7_fill_53178_7 rfl (by decide) (by omega) (by omega) (fun c => absurd c (by omega)) (fun _ => ?_)
      refine g_aload_n (q := 11) dJ7_fill_53178_10 rfl rfl ?_
      refine g_iload_n (q := 12) dJ7_fill_53178_11 rfl rfl ?_
      refine g_iload_n (q := 13) dJ7_fill_53178_12 rfl rfl ?_
      refine gb_iastN (q := 14) (j := 0) (i := 0) dJ7_fill_53178_13 rfl hB rfl rfl rfl (by omega) hN (fun g hB => ?_)
      refine g_iincN (q := 17) (c := 1) dJ7_fill_53178_14 rfl (by decide) rfl rfl (by decide) ?_
      refine g_goto (q := 5) dJ7_fill_53178_17 (by decide) ?_
      refine g_lvs (lv1 := [(2, .int (nI (i + 1))), (3, .int (nI N)), (0, .ref a), (1, .int v)]) ⟨rfl, rfl, rfl, rfl, trivial⟩ ?_
      refine ih (i + 1) g (by omega) ?_
      rw [← v_fillS]
      exact hB
  refine g_iconst (q := 1) (v := (nI 0)) dJ7_fill_53178_0 rfl (by decide) ?_
  refine g_istore_n (q := 2) rfl dJ7_fill_53178_1 rfl (by decide) rfl ?_
  refine g_aload_n (q := 3) dJ7_fill_53178_2 rfl rfl ?_
  refine gb_alen (q := 4) (j := 0) (i := 0) (t0 := 1) dJ7_fill_53178_3 rfl hB rfl rfl rfl rfl ?_
  refine g_istore_n (q := 5) rfl dJ7_fill_53178_4 rfl (by decide) rfl ?_
  refine g_lvs (lv1 := [(2, .int (nI 0)), (3, .int (nI N)), (0, .ref a), (1, .int v)]) ⟨rfl, rfl, rfl, rfl, trivial⟩ ?_
  exact K N 0 g (by omega) (by rw [v_fill0]; exact hB)
set_option maxRecDepth 20000 in
set_option maxHeartbeats 1000000 in
theorem c_clear {l : Launch} {E : bz_E} {L : List Nat} {g : Nat → va_E} {o : Nat} {f c : Nat → Int32} {z : Int32} (hH : bz_H L g o (b_Line E o f c z)) : bz_K l E mX2_clear 1 [.ref o] L g (fun r g1 => r = none ∧ bz_B L g g1 [(o, b_Line E o f (v_fill c 0 4) (nI 0))]) := by
  refine bz_K.of (by decide) (bz_le rfl) (fun sz => ?_)
  have hB := bz_B.rf (bz_W.one hH)
  show bz_G _ _ _ _ _ _ _ _ _ _ _ _ 0 [(0, .ref o)] []
  refine g_aload_n (q := 1) dX2_clear_0 rfl rfl ?_
  refine g_iconst (q := 2) (v := (nI 0)) dX2_clear_1 rfl (by decide) ?_
  refine gb_putf (q := 5) (j := 0) (i := 0) dX2_clear_2 rfl fp_X2_18 hB rfl rfl rfl (bz_le rfl) rfl rfl (fun g hB => ?_)
  refine g_aload_n (q := 6) dX2_clear_5 rfl rfl ?_
  refine gb_getf (q := 9) (j := 0) (i := 0) dX2_clear_6 rfl fl_X2_15 hB rfl rfl rfl rfl ?_
  refine g_iconst (q := 10) (v := (nI 0)) dX2_clear_9 rfl (by decide) ?_
  refine g_callS (q := 13) dX2_clear_10 rfl ks_X2_22 rfl (c_fill (by decide) ((hB.1.at (j := 0) rfl).sub 2 rfl)) (by decide) rfl (bz_le rfl) (by decide) (by decide) (fun r g1 hQ => ?_)
  obtain ⟨rfl, h1⟩ := hQ
  have hB := hB.sp (j := 0) rfl 2 rfl h1 (bz_le rfl)
  exact g_vret dX2_clear_13 rfl (⟨rfl, hB⟩)
set_option maxRecDepth 20000 in
set_option maxHeartbeats 1000000 in
theorem c_copyFrom {l : Launch} {E : bz_E} {L : List Nat} {g : Nat → va_E} {o p n : Nat} {f c f2 c2 : Nat → Int32} {z : Int32} (hn : n ≤ 32) (hH : bz_H L g o (b_Line E o f c z)) (hJ : bz_H L g p (b_Line E p f2 c2 (nI n))) (hd : o + 3 ≤ p ∨ p + 3 ≤ o) : bz_K l E mX2_copyFrom 1 [.ref o, .ref p] L g (fun r g1 => r = none ∧ bz_B L g g1 [(o, b_Line E o (va_cpy f2 f 0 0 (n * 11)) (va_cpy c2 c 0 0 4) (nI n))]) := by
  refine bz_K.of (by decide) (bz_le rfl) (fun sz => ?_)
  have hB := bz_B.rf (bz_W.two hH hJ hd)
  show bz_G _ _ _ _ _ _ _ _ _ _ _ _ 0 [(0, .ref o), (1, .ref p)] []
  refine g_aload_n (q := 1) dX2_copyFrom_0 rfl rfl ?_
  refine g_aload_n (q := 2) dX2_copyFrom_1 rfl rfl ?_
  refine gb_getf (q := 5) (j := 1) (i := 0) dX2_copyFrom_2 rfl fl_X2_18 hB rfl rfl rfl rfl ?_
  refine gb_putf (q := 8) (j := 0) (i := 0) dX2_copyFrom_5 rfl fp_X2_18 hB rfl rfl rfl (bz_le rfl) rfl rfl (fun g hB => ?_)
  refine g_aload_n (q := 9) dX2_copyFrom_8 rfl rfl ?_
  refine gb_getf (q := 12) (j := 1) (i := 0) dX2_copyFrom_9 rfl fl_X2_15 hB rfl rfl rfl rfl ?_
  refine g_iconst (q := 13) (v := (nI 0)) dX2_copyFrom_12 rfl (by decide) ?_
  refine g_aload_n (q := 14) dX2_copyFrom_13 rfl rfl ?_
  refine gb_getf (q := 17) (j := 0) (i := 0) dX2_copyFrom_14 rfl fl_X2_15 hB rfl rfl rfl rfl ?_
  refine g_iconst (q := 18) (v := (nI 0)) dX2_copyFrom_17 rfl (by decide) ?_
  refine g_iconst (q := 19) (v := (nI 4)) dX2_copyFrom_18 rfl (by decide) ?_
  refine gb_copyi (q := 22) (j0 := 1) (i0 := 2) (j1 := 0) (i1 := 2) dX2_copyFrom_19 rfl kc_X2_28 (by decide) (bz_le rfl) hB rfl rfl rfl rfl rfl rfl (by omega) (by omega) (by decide) (by decide) (fun g hB => ?_)
  refine g_aload_n (q := 23) dX2_copyFrom_22 rfl rfl ?_
  refine gb_getf (q := 26) (j := 0) (i := 0) dX2_copyFrom_23 rfl fl_X2_18 hB rfl rfl rfl rfl ?_
  refine g_ifN_lt (q := 29) (t := 58) dX2_copyFrom_26 rfl (by decide) (by omega) ?_
  refine g_aload_n (q := 30) dX2_copyFrom_29 rfl rfl ?_
  refine gb_getf (q := 33) (j := 0) (i := 0) dX2_copyFrom_30 rfl fl_X2_18 hB rfl rfl rfl rfl ?_
  refine g_bipush (q := 35) (v := (nI 32)) dX2_copyFrom_33 rfl (by decide) ?_
  refine g_icmpN_gt (q := 38) (t := 58) dX2_copyFrom_35 rfl (by decide) (by omega) (by omega) (fun c => absurd c (by omega)) (fun _ => ?_)
  refine g_aload_n (q := 39) dX2_copyFrom_38 rfl rfl ?_
  refine gb_getf (q := 42) (j := 1) (i := 0) dX2_copyFrom_39 rfl fl_X2_11 hB rfl rfl rfl rfl ?_
  refine g_iconst (q := 43) (v := (nI 0)) dX2_copyFrom_42 rfl (by decide) ?_
  refine g_aload_n (q := 44) dX2_copyFrom_43 rfl rfl ?_
  refine gb_getf (q := 47) (j := 0) (i := 0) dX2_copyFrom_44 rfl fl_X2_11 hB rfl rfl rfl rfl ?_
  refine g_iconst (q := 48) (v := (nI 0)) dX2_copyFrom_47 rfl (by decide) ?_
  refine g_aload_n (q := 49) dX2_copyFrom_48 rfl rfl ?_
  refine gb_getf (q := 52) (j := 0) (i := 0) dX2_copyFrom_49 rfl fl_X2_18 hB rfl rfl rfl rfl ?_
  refine g_bipush (q := 54) (v := (nI 11)) dX2_copyFrom_52 rfl (by decide) ?_
  refine g_imulN (q := 55) dX2_copyFrom_54 rfl ?_
  refine gb_copyi (q := 58) (j0 := 1) (i0 := 1) (j1 := 0) (i1 := 1) dX2_copyFrom_55 rfl kc_X2_28 (by decide) (bz_le rfl) hB rfl rfl rfl rfl rfl rfl (by omega) (by omega) (by decide) (by decide) (fun g hB => ?_)
  exact g_vret dX2_copyFrom_58 rfl (⟨rfl, bz_B.fst hB hJ⟩)
set_option maxRecDepth 20000 in
set_option maxHeartbeats 1000000 in
theorem c_takeFrom {l : Launch} {E : bz_E} {L : List Nat} {g : Nat → va_E} {o p n n2 x kd : Nat} {f c f2 c2 : Nat → Int32} (hn : n < 32) (hx : x < n2) (hn2 : n2 ≤ 32) (hk : f2 (x * 11 + 0) = nI kd) (hkd : kd < 4) (hH : bz_H L g o (b_Line E o f c (nI n))) (hJ : bz_H L g p (b_Line E p f2 c2 (nI n2))) (hd : o + 3 ≤ p ∨ p + 3 ≤ o) : bz_K l E mX2_takeFrom 2 [.ref o, .ref p, .int (nI x)] L g (fun r g1 => r = some (.int (nI n)) ∧ bz_B L g g1 [(o, b_Line E o (va_cpy f2 f (x * 11) (n * 11) 11) (upd c kd (c kd + nI 1)) (nI (n + 1))), (p, b_Line E p (va_cpy f2 f2 ((x + 1) * 11) (x * 11) ((n2 - 1 - x) * 11)) (upd c2 kd (c2 kd + (-1))) (nI (n2 - 1)))]) := by
  refine bz_K.of (by decide) (bz_le rfl) (fun sz => ?_)
  have hB := bz_B.rf (bz_W.two hH hJ hd)
  show bz_G _ _ _ _ _ _ _ _ _ _ _ _ 0 [(0, .ref o), (1, .ref p), (2, .int (nI x))] []
  refine g_aload_n (q := 1) dX2_takeFrom_0 rfl rfl ?_
  refine gb_getf (q := 4) (j := 0) (i := 0) dX2_takeFrom_1 rfl fl_X2_18 hB rfl rfl rfl rfl ?_
  refine g_ifN_lt (q := 7) (t := 26) dX2_takeFrom_4 rfl (by decide) (by omega) ?_
  refine g_aload_n (q := 8) dX2_takeFrom_7 rfl rfl ?_
  refine gb_getf (q := 11) (j := 0) (i := 0) dX2_takeFrom_8 rfl fl_X2_18 hB rfl rfl rfl rfl ?_
  refine g_bipush (q := 13) (v := (nI 32)) dX2_takeFrom_11 rfl (by decide) ?_
  refine g_icmpN_ge (q := 16) (t := 26) dX2_takeFrom_13 rfl (by decide) (by omega) (by omega) (fun c => absurd c (by omega)) (fun _ => ?_)
  refine g_iload_n (q := 17) dX2_takeFrom_16 rfl rfl ?_
  refine g_ifN_lt (q := 20) (t := 26) dX2_takeFrom_17 rfl (by decide) (by omega) ?_
  refine g_iload_n (q := 21) dX2_takeFrom_20 rfl rfl ?_
  refine g_bipush (q := 23) (v := (nI 32)) dX2_takeFrom_21 rfl (by decide) ?_
  refine g_icmpN_lt (q := 26) (t := 28) dX2_takeFrom_23 rfl (by decide) (by omega) (by omega) (fun _ => ?_) (fun c => absurd c (by omega))
  refine g_aload_n (q := 29) dX2_takeFrom_28 rfl rfl ?_
  refine gb_getf (q := 32) (j := 1) (i := 0) dX2_takeFrom_29 rfl fl_X2_11 hB rfl rfl rfl rfl ?_
  refine g_iload_n (q := 33) dX2_takeFrom_32 rfl rfl ?_
  refine g_bipush (q := 35) (v := (nI 11)) dX2_takeFrom_33 rfl (by decide) ?_
  refine g_imulN (q := 36) dX2_takeFrom_35 rfl ?_
  refine g_aload_n (q := 37) dX2_takeFrom_36 rfl rfl ?_
  refine gb_getf (q := 40) (j := 0) (i := 0) dX2_takeFrom_37 rfl fl_X2_11 hB rfl rfl rfl rfl ?_
  refine g_aload_n (q := 41) dX2_takeFrom_40 rfl rfl ?_
  refine gb_getf (q := 44) (j := 0) (i := 0) dX2_takeFrom_41 rfl fl_X2_18 hB rfl rfl rfl rfl ?_
  refine g_bipush (q := 46) (v := (nI 11)) dX2_takeFrom_44 rfl (by decide) ?_
  refine g_imulN (q := 47) dX2_takeFrom_46 rfl ?_
  refine g_bipush (q := 49) (v := (nI 11)) dX2_takeFrom_47 rfl (by decide) ?_
  refine gb_copyi (q := 52) (j0 := 1) (i0 := 1) (j1 := 0) (i1 := 1) dX2_takeFrom_49 rfl kc_X2_28 (by decide) (bz_le rfl) hB rfl rfl rfl rfl rfl rfl (by omega) (by omega) (by decide) (by decide) (fun g hB => ?_)
  refine g_aload_n (q := 53) dX2_takeFrom_52 rfl rfl ?_
  refine g_aload_n (q := 54) dX2_takeFrom_53 rfl rfl ?_
  refine g_iload_n (q := 55) dX2_takeFrom_54 rfl rfl ?_
  refine g_iconst (q := 56) (v := (nI 0)) dX2_takeFrom_55 rfl (by decide) ?_
  refine gb_callV (q := 59) (j := 1) (i := 0) dX2_takeFrom_56 rfl kv_X2_34 (c_get (x := 0) (by omega) (hB.1.at (j := 1) rfl)) rfl (by decide) hB rfl rfl rfl rfl (bz_le rfl) (by decide) (by decide) (fun r g1 hQ => ?_)
  obtain ⟨rfl, hg⟩ := hQ
  have hg := hg.symm
  subst hg
  refine g_eqi (v := nI (kd)) (hk) ?_
  refine g_iconst (q := 60) (v := (nI 1)) dX2_takeFrom_59 rfl (by decide) ?_
  refine gb_callV (q := 63) (j := 0) (i := 0) dX2_takeFrom_60 rfl kv_X2_46 (c_count hkd (hB.1.at (j := 0) rfl)) rfl (by decide) hB rfl rfl rfl rfl (bz_le rfl) (by decide) (by decide) (fun r g1 hQ => ?_)
  obtain ⟨rfl, h1⟩ := hQ
  have hB := hB.sp (j := 0) rfl 0 rfl h1 (bz_le rfl)
  refine g_aload_n (q := 64) dX2_takeFrom_63 rfl rfl ?_
  refine g_iload_n (q := 65) dX2_takeFrom_64 rfl rfl ?_
  refine gb_callV (q := 68) (j := 1) (i := 0) dX2_takeFrom_65 rfl kv_X2_50 (c_remove hx hn2 hk hkd (hB.1.at (j := 1) rfl)) rfl (by decide) hB rfl rfl rfl rfl (bz_le rfl) (by decide) (by decide) (fun r g1 hQ => ?_)
  obtain ⟨rfl, h1⟩ := hQ
  have hB := hB.sp (j := 1) rfl 0 rfl h1 (bz_le rfl)
  refine g_aload_n (q := 69) dX2_takeFrom_68 rfl rfl ?_
  refine g_dup (q := 70) dX2_takeFrom_69 rfl rfl ?_
  refine gb_getf (q := 73) (j := 0) (i := 0) dX2_takeFrom_70 rfl fl_X2_18 hB rfl rfl rfl rfl ?_
  refine g_iconst (q := 74) (v := (nI 1)) dX2_takeFrom_73 rfl (by decide) ?_
  refine g_iaddN (q := 75) dX2_takeFrom_74 rfl ?_
  refine gb_putf (q := 78) (j := 0) (i := 0) dX2_takeFrom_75 rfl fp_X2_18 hB rfl rfl rfl (bz_le rfl) rfl rfl (fun g hB => ?_)
  refine g_aload_n (q := 79) dX2_takeFrom_78 rfl rfl ?_
  refine gb_getf (q := 82) (j := 0) (i := 0) dX2_takeFrom_79 rfl fl_X2_18 hB rfl rfl rfl rfl ?_
  refine g_iconst (q := 83) (v := (nI 1)) dX2_takeFrom_82 rfl (by decide) ?_
  refine g_isubN (q := 84) dX2_takeFrom_83 rfl (by omega) ?_
  exact g_iret dX2_takeFrom_84 rfl (⟨rfl, hB⟩)
