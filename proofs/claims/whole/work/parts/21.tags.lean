/-! class Tags -/
def v_pc (m : Nat) : Nat := m % 2 + m / 2 % 2 + m / 4 % 2 + m / 8 % 2
abbrev b_Tags (E : bz_E) (o : Nat) (s wn cm wd : Nat → Int32) : List va_E := [.inr (7, [.ref (o + 1), .ref (o + 2), .ref (o + 3), .ref (o + 4)]), .inl (E.1.1 21, 8, .inl s), .inl (E.1.1 21, 8, .inl wn), .inl (E.1.1 21, 8, .inl cm), .inl (E.1.1 21, 32, .inl wd)]
def v_bc (x : Int32) : Int32 :=
  let a := x - ((x.toUInt32 >>> ((1 : Int32).toUInt32 &&& Int32.toUInt32 31)).toInt32 &&& 1431655765)
  let b := (a &&& 858993459) + ((a.toUInt32 >>> ((2 : Int32).toUInt32 &&& Int32.toUInt32 31)).toInt32 &&& 858993459)
  let c := (b + (b.toUInt32 >>> ((4 : Int32).toUInt32 &&& Int32.toUInt32 31)).toInt32) &&& 252645135
  let d := c + (c.toUInt32 >>> ((8 : Int32).toUInt32 &&& Int32.toUInt32 31)).toInt32
  (d + (d.toUInt32 >>> ((16 : Int32).toUInt32 &&& Int32.toUInt32 31)).toInt32) &&& 63
theorem v_pcl (m : Nat) : v_pc m < 2 ^ 31 := by unfold v_pc; omega
theorem v_bc16 : ∀ m, m < 16 → v_bc (nI m) = nI (v_pc m) := by decide +kernel
set_option maxRecDepth 20000 in
set_option maxHeartbeats 1000000 in
theorem c_bitCount {l : Launch} {E : bz_E} {L : List Nat} {g : Nat → va_E} {m : Nat} (hm : m < 16) : bz_K l E mJ6_bitCount_0f7a4 0 [.int (nI m)] L g (fun r g1 => r = some (.int (nI (v_pc m))) ∧ g1 = g) := by
  refine bz_K.of (by decide) (bz_le rfl) (fun sz => ?_)
  show bz_G _ _ _ _ _ _ _ _ _ _ _ _ 0 [(0, .int (nI m))] []
  refine g_iload_n (q := 1) dJ6_bitCount_0f7a4_0 rfl rfl ?_
  refine g_iload_n (q := 2) dJ6_bitCount_0f7a4_1 rfl rfl ?_
  refine g_iconst (q := 3) (v := 1) dJ6_bitCount_0f7a4_2 rfl (by decide) ?_
  refine g_iushr (q := 4) dJ6_bitCount_0f7a4_3 rfl rfl ?_
  refine g_ldcw (q := 7) (v := 1431655765) dJ6_bitCount_0f7a4_4 rfl (bz_mw 557 (by decide +kernel)) ?_
  refine g_iand (q := 8) dJ6_bitCount_0f7a4_7 rfl ?_
  refine g_isub (q := 9) dJ6_bitCount_0f7a4_8 rfl ?_
  refine g_istore_n (q := 10) rfl dJ6_bitCount_0f7a4_9 rfl (by decide) rfl ?_
  refine g_iload_n (q := 11) dJ6_bitCount_0f7a4_10 rfl rfl ?_
  refine g_ldcw (q := 14) (v := 858993459) dJ6_bitCount_0f7a4_11 rfl (bz_mw 558 (by decide +kernel)) ?_
  refine g_iand (q := 15) dJ6_bitCount_0f7a4_14 rfl ?_
  refine g_iload_n (q := 16) dJ6_bitCount_0f7a4_15 rfl rfl ?_
  refine g_iconst (q := 17) (v := 2) dJ6_bitCount_0f7a4_16 rfl (by decide) ?_
  refine g_iushr (q := 18) dJ6_bitCount_0f7a4_17 rfl rfl ?_
  refine g_ldcw (q := 21) (v := 858993459) dJ6_bitCount_0f7a4_18 rfl (bz_mw 558 (by decide +kernel)) ?_
  refine g_iand (q := 22) dJ6_bitCount_0f7a4_21 rfl ?_
  refine g_iadd (q := 23) dJ6_bitCount_0f7a4_22 rfl ?_
  refine g_istore_n (q := 24) rfl dJ6_bitCount_0f7a4_23 rfl (by decide) rfl ?_
  refine g_iload_n (q := 25) dJ6_bitCount_0f7a4_24 rfl rfl ?_
  refine g_iload_n (q := 26) dJ6_bitCount_0f7a4_25 rfl rfl ?_
  refine g_iconst (q := 27) (v := 4) dJ6_bitCount_0f7a4_26 rfl (by decide) ?_
  refine g_iushr (q := 28) dJ6_bitCount_0f7a4_27 rfl rfl ?_
  refine g_iadd (q := 29) dJ6_bitCount_0f7a4_28 rfl ?_
  refine g_ldcw (q := 32) (v := 252645135) dJ6_bitCount_0f7a4_29 rfl (bz_mw 559 (by decide +kernel)) ?_
  refine g_iand (q := 33) dJ6_bitCount_0f7a4_32 rfl ?_
  refine g_istore_n (q := 34) rfl dJ6_bitCount_0f7a4_33 rfl (by decide) rfl ?_
  refine g_iload_n (q := 35) dJ6_bitCount_0f7a4_34 rfl rfl ?_
  refine g_iload_n (q := 36) dJ6_bitCount_0f7a4_35 rfl rfl ?_
  refine g_bipush (q := 38) (v := 8) dJ6_bitCount_0f7a4_36 rfl (by decide) ?_
  refine g_iushr (q := 39) dJ6_bitCount_0f7a4_38 rfl rfl ?_
  refine g_iadd (q := 40) dJ6_bitCount_0f7a4_39 rfl ?_
  refine g_istore_n (q := 41) rfl dJ6_bitCount_0f7a4_40 rfl (by decide) rfl ?_
  refine g_iload_n (q := 42) dJ6_bitCount_0f7a4_41 rfl rfl ?_
  refine g_iload_n (q := 43) dJ6_bitCount_0f7a4_42 rfl rfl ?_
  refine g_bipush (q := 45) (v := 16) dJ6_bitCount_0f7a4_43 rfl (by decide) ?_
  refine g_iushr (q := 46) dJ6_bitCount_0f7a4_45 rfl rfl ?_
  refine g_iadd (q := 47) dJ6_bitCount_0f7a4_46 rfl ?_
  refine g_istore_n (q := 48) rfl dJ6_bitCount_0f7a4_47 rfl (by decide) rfl ?_
  refine g_iload_n (q := 49) dJ6_bitCount_0f7a4_48 rfl rfl ?_
  refine g_bipush (q := 51) (v := 63) dJ6_bitCount_0f7a4_49 rfl (by decide) ?_
  refine g_iand (q := 52) dJ6_bitCount_0f7a4_51 rfl ?_
  exact g_iret dJ6_bitCount_0f7a4_52 rfl (⟨congrArg (fun z => some (Value.int z)) (v_bc16 m hm), rfl⟩)
set_option maxRecDepth 20000 in
set_option maxHeartbeats 1000000 in
theorem c_stateOf {l : Launch} {E : bz_E} {L : List Nat} {g : Nat → va_E} {o t : Nat} {s wn cm wd : Nat → Int32} (ht : t < 8) (hH : bz_H L g o (b_Tags E o s wn cm wd)) : bz_K l E mX7_stateOf 1 [.ref o, .int (nI t)] L g (fun r g1 => r = some (.int (s t)) ∧ g1 = g) := by
  refine bz_K.of (by decide) (bz_le rfl) (fun sz => ?_)
  have hB := bz_B.rf (bz_W.one hH)
  show bz_G _ _ _ _ _ _ _ _ _ _ _ _ 0 [(0, .ref o), (1, .int (nI t))] []
  refine g_aload_n (q := 1) dX7_stateOf_0 rfl rfl ?_
  refine gb_getf (q := 4) (j := 0) (i := 0) dX7_stateOf_1 rfl fl_X7_9 hB rfl rfl rfl rfl ?_
  refine g_iload_n (q := 5) dX7_stateOf_4 rfl rfl ?_
  refine g_callN (q := 8) dX7_stateOf_5 rfl kn_X7_36 rfl (c_cellOf ht (by decide) (hH.sub 1 rfl)) (by decide) rfl (bz_le rfl) (by decide) (by decide) (fun r g1 hQ => ?_)
  obtain ⟨rfl, hg⟩ := hQ
  have hg := hg.symm
  subst hg
  exact g_iret dX7_stateOf_8 rfl (⟨rfl, rfl⟩)
set_option maxRecDepth 20000 in
set_option maxHeartbeats 1000000 in
theorem c_storedWords {l : Launch} {E : bz_E} {L : List Nat} {g : Nat → va_E} {o t m : Nat} {s wn cm wd : Nat → Int32} (ht : t < 8) (hm : m < 16) (hc : cm t = nI m) (hH : bz_H L g o (b_Tags E o s wn cm wd)) : bz_K l E mX7_storedWords 1 [.ref o, .int (nI t)] L g (fun r g1 => r = some (.int (nI (v_pc m))) ∧ g1 = g) := by
  refine bz_K.of (by decide) (bz_le rfl) (fun sz => ?_)
  have hB := bz_B.rf (bz_W.one hH)
  show bz_G _ _ _ _ _ _ _ _ _ _ _ _ 0 [(0, .ref o), (1, .int (nI t))] []
  refine g_aload_n (q := 1) dX7_storedWords_0 rfl rfl ?_
  refine gb_getf (q := 4) (j := 0) (i := 0) dX7_storedWords_1 rfl fl_X7_18 hB rfl rfl rfl rfl ?_
  refine g_iload_n (q := 5) dX7_storedWords_4 rfl rfl ?_
  refine g_callN (q := 8) dX7_storedWords_5 rfl kn_X7_36 rfl (c_cellOf ht (by decide) (hH.sub 3 rfl)) (by decide) rfl (bz_le rfl) (by decide) (by decide) (fun r g1 hQ => ?_)
  obtain ⟨rfl, hg⟩ := hQ
  have hg := hg.symm
  subst hg
  refine g_eqi (v := nI (m)) (hc) ?_
  refine g_callS (q := 11) dX7_storedWords_8 rfl ks_X7_40 rfl (c_bitCount hm) (by decide) rfl (bz_le rfl) (by decide) (by decide) (fun r g1 hQ => ?_)
  obtain ⟨rfl, hg⟩ := hQ
  have hg := hg.symm
  subst hg
  exact g_iret dX7_storedWords_11 rfl (⟨rfl, rfl⟩)
set_option maxRecDepth 20000 in
set_option maxHeartbeats 1000000 in
theorem c_hasWord {l : Launch} {E : bz_E} {L : List Nat} {g : Nat → va_E} {o t : Nat} {s wn cm wd : Nat → Int32} {x : Int32} (ht : t < 8) (hH : bz_H L g o (b_Tags E o s wn cm wd)) : bz_K l E mX7_hasWord 1 [.ref o, .int (nI t), .int x] L g (fun r g1 => r = some (.int (if x < 0 then 0 else if 4 ≤ x then 0 else if ((cm t) >>> (x &&& 31)) &&& 1 = 1 then 1 else 0)) ∧ g1 = g) := by
  refine bz_K.of (by decide) (bz_le rfl) (fun sz => ?_)
  have hB := bz_B.rf (bz_W.one hH)
  show bz_G _ _ _ _ _ _ _ _ _ _ _ _ 0 [(0, .ref o), (1, .int (nI t)), (2, .int x)] []
  refine g_iload_n (q := 1) dX7_hasWord_0 rfl rfl ?_
  refine g_if_lt (q := 4) (t := 28) dX7_hasWord_1 rfl (by decide) (fun c_1 => ?_) (fun c_1 => ?_)
  · refine g_iconst (q := 29) (v := 0) dX7_hasWord_28 rfl (by decide) ?_
    exact g_zret dX7_hasWord_29 rfl rfl ⟨by first | (rw [if_pos c_1]; done) | (rw [if_neg c_1, if_pos c_6]; done) | (rw [if_neg c_1, if_neg c_6]; split at c_21 <;> simp_all), rfl⟩
  · refine g_iload_n (q := 5) dX7_hasWord_4 rfl rfl ?_
    refine g_iconst (q := 6) (v := 4) dX7_hasWord_5 rfl (by decide) ?_
    refine g_icmp_ge (q := 9) (t := 28) dX7_hasWord_6 rfl (by decide) (fun c_6 => ?_) (fun c_6 => ?_)
    · refine g_iconst (q := 29) (v := 0) dX7_hasWord_28 rfl (by decide) ?_
      exact g_zret dX7_hasWord_29 rfl rfl ⟨by first | (rw [if_pos c_1]; done) | (rw [if_neg c_1, if_pos c_6]; done) | (rw [if_neg c_1, if_neg c_6]; split at c_21 <;> simp_all), rfl⟩
    · refine g_aload_n (q := 10) dX7_hasWord_9 rfl rfl ?_
      refine gb_getf (q := 13) (j := 0) (i := 0) dX7_hasWord_10 rfl fl_X7_18 hB rfl rfl rfl rfl ?_
      refine g_iload_n (q := 14) dX7_hasWord_13 rfl rfl ?_
      refine g_callN (q := 17) dX7_hasWord_14 rfl kn_X7_36 rfl (c_cellOf ht (by decide) (hH.sub 3 rfl)) (by decide) rfl (bz_le rfl) (by decide) (by decide) (fun r g1 hQ => ?_)
      obtain ⟨rfl, hg⟩ := hQ
      have hg := hg.symm
      subst hg
      refine g_iload_n (q := 18) dX7_hasWord_17 rfl rfl ?_
      refine g_callN (q := 21) dX7_hasWord_18 rfl kn_X7_46 rfl (c_hasBit) (by decide) rfl (bz_le rfl) (by decide) (by decide) (fun r g1 hQ => ?_)
      obtain ⟨rfl, hg⟩ := hQ
      have hg := hg.symm
      subst hg
      refine g_if_eq (q := 24) (t := 28) dX7_hasWord_21 rfl (by decide) (fun c_21 => ?_) (fun c_21 => ?_)
      · refine g_iconst (q := 29) (v := 0) dX7_hasWord_28 rfl (by decide) ?_
        exact g_zret dX7_hasWord_29 rfl rfl ⟨by first | (rw [if_pos c_1]; done) | (rw [if_neg c_1, if_pos c_6]; done) | (rw [if_neg c_1, if_neg c_6]; split at c_21 <;> simp_all), rfl⟩
      · refine g_iconst (q := 25) (v := 1) dX7_hasWord_24 rfl (by decide) ?_
        refine g_goto (q := 29) dX7_hasWord_25 (by decide) ?_
        exact g_zret dX7_hasWord_29 rfl rfl ⟨by first | (rw [if_pos c_1]; done) | (rw [if_neg c_1, if_pos c_6]; done) | (rw [if_neg c_1, if_neg c_6]; split at c_21 <;> simp_all), rfl⟩
set_option maxRecDepth 20000 in
set_option maxHeartbeats 1000000 in
theorem c_wordOf {l : Launch} {E : bz_E} {L : List Nat} {g : Nat → va_E} {o t x : Nat} {s wn cm wd : Nat → Int32} (ht : t * 4 + x < 32) (hH : bz_H L g o (b_Tags E o s wn cm wd)) : bz_K l E mX7_wordOf 1 [.ref o, .int (nI t), .int (nI x)] L g (fun r g1 => r = some (.int (wd (t * 4 + x))) ∧ g1 = g) := by
  refine bz_K.of (by decide) (bz_le rfl) (fun sz => ?_)
  have hB := bz_B.rf (bz_W.one hH)
  show bz_G _ _ _ _ _ _ _ _ _ _ _ _ 0 [(0, .ref o), (1, .int (nI t)), (2, .int (nI x))] []
  refine g_aload_n (q := 1) dX7_wordOf_0 rfl rfl ?_
  refine gb_getf (q := 4) (j := 0) (i := 0) dX7_wordOf_1 rfl fl_X7_21 hB rfl rfl rfl rfl ?_
  refine g_iload_n (q := 5) dX7_wordOf_4 rfl rfl ?_
  refine g_iconst (q := 6) (v := (nI 4)) dX7_wordOf_5 rfl (by decide) ?_
  refine g_imulN (q := 7) dX7_wordOf_6 rfl ?_
  refine g_iload_n (q := 8) dX7_wordOf_7 rfl rfl ?_
  refine g_iaddN (q := 9) dX7_wordOf_8 rfl ?_
  refine g_callN (q := 12) dX7_wordOf_9 rfl kn_X7_36 rfl (c_cellOf ht (by decide) (hH.sub 4 rfl)) (by decide) rfl (bz_le rfl) (by decide) (by decide) (fun r g1 hQ => ?_)
  obtain ⟨rfl, hg⟩ := hQ
  have hg := hg.symm
  subst hg
  exact g_iret dX7_wordOf_12 rfl (⟨rfl, rfl⟩)
set_option maxRecDepth 20000 in
set_option maxHeartbeats 1000000 in
theorem c_tput {l : Launch} {E : bz_E} {L : List Nat} {g : Nat → va_E} {o t : Nat} {s wn cm wd : Nat → Int32} {x y : Int32} (ht : t < 8) (hH : bz_H L g o (b_Tags E o s wn cm wd)) : bz_K l E mX7_put 0 [.ref o, .int (nI t), .int x, .int y] L g (fun r g1 => r = none ∧ bz_B L g g1 [(o, b_Tags E o (upd s t x) (upd wn t y) (upd cm t (nI 0)) wd)]) := by
  refine bz_K.of (by decide) (bz_le rfl) (fun sz => ?_)
  have hB := bz_B.rf (bz_W.one hH)
  show bz_G _ _ _ _ _ _ _ _ _ _ _ _ 0 [(0, .ref o), (1, .int (nI t)), (2, .int x), (3, .int y)] []
  refine g_iload_n (q := 1) dX7_put_0 rfl rfl ?_
  refine g_ifN_lt (q := 4) (t := 31) dX7_put_1 rfl (by decide) (by omega) ?_
  refine g_iload_n (q := 5) dX7_put_4 rfl rfl ?_
  refine g_bipush (q := 7) (v := (nI 8)) dX7_put_5 rfl (by decide) ?_
  refine g_icmpN_ge (q := 10) (t := 31) dX7_put_7 rfl (by decide) (by omega) (by omega) (fun c => absurd c (by omega)) (fun _ => ?_)
  refine g_aload_n (q := 11) dX7_put_10 rfl rfl ?_
  refine gb_getf (q := 14) (j := 0) (i := 0) dX7_put_11 rfl fl_X7_9 hB rfl rfl rfl rfl ?_
  refine g_iload_n (q := 15) dX7_put_14 rfl rfl ?_
  refine g_iload_n (q := 16) dX7_put_15 rfl rfl ?_
  refine gb_iastN (q := 17) (j := 0) (i := 1) dX7_put_16 rfl hB rfl rfl rfl (by omega) (by decide) (fun g hB => ?_)
  refine g_aload_n (q := 18) dX7_put_17 rfl rfl ?_
  refine gb_getf (q := 21) (j := 0) (i := 0) dX7_put_18 rfl fl_X7_15 hB rfl rfl rfl rfl ?_
  refine g_iload_n (q := 22) dX7_put_21 rfl rfl ?_
  refine g_iload_n (q := 23) dX7_put_22 rfl rfl ?_
  refine gb_iastN (q := 24) (j := 0) (i := 2) dX7_put_23 rfl hB rfl rfl rfl (by omega) (by decide) (fun g hB => ?_)
  refine g_aload_n (q := 25) dX7_put_24 rfl rfl ?_
  refine gb_getf (q := 28) (j := 0) (i := 0) dX7_put_25 rfl fl_X7_18 hB rfl rfl rfl rfl ?_
  refine g_iload_n (q := 29) dX7_put_28 rfl rfl ?_
  refine g_iconst (q := 30) (v := (nI 0)) dX7_put_29 rfl (by decide) ?_
  refine gb_iastN (q := 31) (j := 0) (i := 3) dX7_put_30 rfl hB rfl rfl rfl (by omega) (by decide) (fun g hB => ?_)
  exact g_vret dX7_put_31 rfl (⟨rfl, hB⟩)
set_option maxRecDepth 20000 in
set_option maxHeartbeats 1000000 in
theorem c_begin {l : Launch} {E : bz_E} {L : List Nat} {g : Nat → va_E} {o t : Nat} {s wn cm wd : Nat → Int32} {y : Int32} (ht : t < 8) (hH : bz_H L g o (b_Tags E o s wn cm wd)) : bz_K l E mX7_begin 1 [.ref o, .int (nI t), .int y] L g (fun r g1 => r = none ∧ bz_B L g g1 [(o, b_Tags E o (upd s t (nI 1)) (upd wn t y) (upd cm t (nI 0)) wd)]) := by
  refine bz_K.of (by decide) (bz_le rfl) (fun sz => ?_)
  have hB := bz_B.rf (bz_W.one hH)
  show bz_G _ _ _ _ _ _ _ _ _ _ _ _ 0 [(0, .ref o), (1, .int (nI t)), (2, .int y)] []
  refine g_aload_n (q := 1) dX7_begin_0 rfl rfl ?_
  refine g_iload_n (q := 2) dX7_begin_1 rfl rfl ?_
  refine g_iconst (q := 3) (v := (nI 1)) dX7_begin_2 rfl (by decide) ?_
  refine g_iload_n (q := 4) dX7_begin_3 rfl rfl ?_
  refine gb_callV (q := 7) (j := 0) (i := 0) dX7_begin_4 rfl kv_X7_53 (c_tput ht hH) rfl (by decide) hB rfl rfl rfl rfl (bz_le rfl) (by decide) (by decide) (fun r g1 hQ => ?_)
  obtain ⟨rfl, h1⟩ := hQ
  have hB := hB.sp (j := 0) rfl 0 rfl h1 (bz_le rfl)
  exact g_vret dX7_begin_7 rfl (⟨rfl, hB⟩)
set_option maxRecDepth 20000 in
set_option maxHeartbeats 1000000 in
theorem c_free {l : Launch} {E : bz_E} {L : List Nat} {g : Nat → va_E} {o t : Nat} {s wn cm wd : Nat → Int32} (ht : t < 8) (hH : bz_H L g o (b_Tags E o s wn cm wd)) : bz_K l E mX7_free 1 [.ref o, .int (nI t)] L g (fun r g1 => r = none ∧ bz_B L g g1 [(o, b_Tags E o (upd s t (nI 0)) (upd wn t (nI 0)) (upd cm t (nI 0)) wd)]) := by
  refine bz_K.of (by decide) (bz_le rfl) (fun sz => ?_)
  have hB := bz_B.rf (bz_W.one hH)
  show bz_G _ _ _ _ _ _ _ _ _ _ _ _ 0 [(0, .ref o), (1, .int (nI t))] []
  refine g_aload_n (q := 1) dX7_free_0 rfl rfl ?_
  refine g_iload_n (q := 2) dX7_free_1 rfl rfl ?_
  refine g_iconst (q := 3) (v := (nI 0)) dX7_free_2 rfl (by decide) ?_
  refine g_iconst (q := 4) (v := (nI 0)) dX7_free_3 rfl (by decide) ?_
  refine gb_callV (q := 7) (j := 0) (i := 0) dX7_free_4 rfl kv_X7_53 (c_tput ht hH) rfl (by decide) hB rfl rfl rfl rfl (bz_le rfl) (by decide) (by decide) (fun r g1 hQ => ?_)
  obtain ⟨rfl, h1⟩ := hQ
  have hB := hB.sp (j := 0) rfl 0 rfl h1 (bz_le rfl)
  exact g_vret dX7_free_7 rfl (⟨rfl, hB⟩)
set_option maxRecDepth 20000 in
set_option maxHeartbeats 1000000 in
theorem c_store {l : Launch} {E : bz_E} {L : List Nat} {g : Nat → va_E} {o t x : Nat} {s wn cm wd : Nat → Int32} {v : Int32} (ht : t < 8) (hx : x < 4) (hH : bz_H L g o (b_Tags E o s wn cm wd)) : bz_K l E mX7_store 0 [.ref o, .int (nI t), .int (nI x), .int v] L g (fun r g1 => r = none ∧ bz_B L g g1 [(o, b_Tags E o s wn (upd cm t (cm t ||| (nI 1 <<< (nI x &&& 31)))) (upd wd (t * 4 + x) v))]) := by
  refine bz_K.of (by decide) (bz_le rfl) (fun sz => ?_)
  have hB := bz_B.rf (bz_W.one hH)
  show bz_G _ _ _ _ _ _ _ _ _ _ _ _ 0 [(0, .ref o), (1, .int (nI t)), (2, .int (nI x)), (3, .int v)] []
  refine g_iload_n (q := 1) dX7_store_0 rfl rfl ?_
  refine g_iconst (q := 2) (v := (nI 4)) dX7_store_1 rfl (by decide) ?_
  refine g_imulN (q := 3) dX7_store_2 rfl ?_
  refine g_iload_n (q := 4) dX7_store_3 rfl rfl ?_
  refine g_iaddN (q := 5) dX7_store_4 rfl ?_
  refine g_istore (q := 7) dX7_store_5 rfl (by decide) rfl ?_
  refine g_iload_n (q := 8) dX7_store_7 rfl rfl ?_
  refine g_ifN_lt (q := 11) (t := 56) dX7_store_8 rfl (by decide) (by omega) ?_
  refine g_iload_n (q := 12) dX7_store_11 rfl rfl ?_
  refine g_bipush (q := 14) (v := (nI 8)) dX7_store_12 rfl (by decide) ?_
  refine g_icmpN_ge (q := 17) (t := 56) dX7_store_14 rfl (by decide) (by omega) (by omega) (fun c => absurd c (by omega)) (fun _ => ?_)
  refine g_iload_n (q := 18) dX7_store_17 rfl rfl ?_
  refine g_ifN_lt (q := 21) (t := 56) dX7_store_18 rfl (by decide) (by omega) ?_
  refine g_iload_n (q := 22) dX7_store_21 rfl rfl ?_
  refine g_iconst (q := 23) (v := (nI 4)) dX7_store_22 rfl (by decide) ?_
  refine g_icmpN_ge (q := 26) (t := 56) dX7_store_23 rfl (by decide) (by omega) (by omega) (fun c => absurd c (by omega)) (fun _ => ?_)
  refine g_iload (q := 28) dX7_store_26 rfl rfl ?_
  refine g_aload_n (q := 29) dX7_store_28 rfl rfl ?_
  refine gb_getf (q := 32) (j := 0) (i := 0) dX7_store_29 rfl fl_X7_21 hB rfl rfl rfl rfl ?_
  refine gb_alen (q := 33) (j := 0) (i := 4) (t0 := 1) dX7_store_32 rfl hB rfl rfl rfl rfl ?_
  refine g_icmpN_ge (q := 36) (t := 56) dX7_store_33 rfl (by decide) (by omega) (by omega) (fun c => absurd c (by omega)) (fun _ => ?_)
  refine g_aload_n (q := 37) dX7_store_36 rfl rfl ?_
  refine gb_getf (q := 40) (j := 0) (i := 0) dX7_store_37 rfl fl_X7_21 hB rfl rfl rfl rfl ?_
  refine g_iload (q := 42) dX7_store_40 rfl rfl ?_
  refine g_iload_n (q := 43) dX7_store_42 rfl rfl ?_
  refine gb_iastN (q := 44) (j := 0) (i := 4) dX7_store_43 rfl hB rfl rfl rfl (by omega) (by decide) (fun g hB => ?_)
  refine g_aload_n (q := 45) dX7_store_44 rfl rfl ?_
  refine gb_getf (q := 48) (j := 0) (i := 0) dX7_store_45 rfl fl_X7_18 hB rfl rfl rfl rfl ?_
  refine g_iload_n (q := 49) dX7_store_48 rfl rfl ?_
  refine g_dup2 (q := 50) dX7_store_49 rfl rfl rfl ?_
  refine gb_ialdN (q := 51) (j := 0) (i := 3) dX7_store_50 rfl hB rfl rfl rfl (by omega) (by decide) ?_
  refine g_iconst (q := 52) (v := (nI 1)) dX7_store_51 rfl (by decide) ?_
  refine g_iload_n (q := 53) dX7_store_52 rfl rfl ?_
  refine g_ishl (q := 54) dX7_store_53 rfl ?_
  refine g_ior (q := 55) dX7_store_54 rfl ?_
  refine gb_iastN (q := 56) (j := 0) (i := 3) dX7_store_55 rfl hB rfl rfl rfl (by omega) (by decide) (fun g hB => ?_)
  exact g_vret dX7_store_56 rfl (⟨rfl, hB⟩)
set_option maxRecDepth 20000 in
set_option maxHeartbeats 1000000 in
theorem c_complete {l : Launch} {E : bz_E} {L : List Nat} {g : Nat → va_E} {o t m b : Nat} {s wn cm wd : Nat → Int32} (ht : t < 8) (hm : m < 16) (hc : cm t = nI m) (hb : b < 8) (hw : wn t = nI b) (hH : bz_H L g o (b_Tags E o s wn cm wd)) : bz_K l E mX7_completeIfAllCame 1 [.ref o, .int (nI t)] L g (fun r g1 => r = none ∧ bz_B L g g1 [(o, b_Tags E o (if v_pc m < b then s else upd s t (nI 2)) wn cm wd)]) := by
  refine bz_K.of (by decide) (bz_le rfl) (fun sz => ?_)
  have hB := bz_B.rf (bz_W.one hH)
  show bz_G _ _ _ _ _ _ _ _ _ _ _ _ 0 [(0, .ref o), (1, .int (nI t))] []
  refine g_iload_n (q := 1) dX7_completeIfAllCame_0 rfl rfl ?_
  refine g_ifN_lt (q := 4) (t := 35) dX7_completeIfAllCame_1 rfl (by decide) (by omega) ?_
  refine g_iload_n (q := 5) dX7_completeIfAllCame_4 rfl rfl ?_
  refine g_bipush (q := 7) (v := (nI 8)) dX7_completeIfAllCame_5 rfl (by decide) ?_
  refine g_icmpN_ge (q := 10) (t := 35) dX7_completeIfAllCame_7 rfl (by decide) (by omega) (by omega) (fun c => absurd c (by omega)) (fun _ => ?_)
  refine g_aload_n (q := 11) dX7_completeIfAllCame_10 rfl rfl ?_
  refine gb_getf (q := 14) (j := 0) (i := 0) dX7_completeIfAllCame_11 rfl fl_X7_18 hB rfl rfl rfl rfl ?_
  refine g_iload_n (q := 15) dX7_completeIfAllCame_14 rfl rfl ?_
  refine gb_ialdN (q := 16) (j := 0) (i := 3) dX7_completeIfAllCame_15 rfl hB rfl rfl rfl (by omega) (by decide) ?_
  refine g_eqi (v := nI (m)) (hc) ?_
  refine g_callS (q := 19) dX7_completeIfAllCame_16 rfl ks_X7_40 rfl (c_bitCount hm) (by decide) rfl (bz_le rfl) (by decide) (by decide) (fun r g1 hQ => ?_)
  obtain ⟨rfl, hg⟩ := hQ
  have hg := hg.symm
  subst hg
  refine g_aload_n (q := 20) dX7_completeIfAllCame_19 rfl rfl ?_
  refine gb_getf (q := 23) (j := 0) (i := 0) dX7_completeIfAllCame_20 rfl fl_X7_15 hB rfl rfl rfl rfl ?_
  refine g_iload_n (q := 24) dX7_completeIfAllCame_23 rfl rfl ?_
  refine gb_ialdN (q := 25) (j := 0) (i := 2) dX7_completeIfAllCame_24 rfl hB rfl rfl rfl (by omega) (by decide) ?_
  refine g_eqi (v := nI (b)) (hw) ?_
  refine g_icmpN_lt (q := 28) (t := 35) dX7_completeIfAllCame_25 rfl (by decide) (v_pcl m) (by omega) (fun c_25 => ?_) (fun c_25 => ?_)
  · exact g_vret dX7_completeIfAllCame_35 rfl (⟨rfl, by first | (rw [if_pos c_25]; exact hB) | (rw [if_neg (Nat.not_lt.mpr c_25)]; exact hB)⟩)
  · refine g_aload_n (q := 29) dX7_completeIfAllCame_28 rfl rfl ?_
    refine gb_getf (q := 32) (j := 0) (i := 0) dX7_completeIfAllCame_29 rfl fl_X7_9 hB rfl rfl rfl rfl ?_
    refine g_iload_n (q := 33) dX7_completeIfAllCame_32 rfl rfl ?_
    refine g_iconst (q := 34) (v := (nI 2)) dX7_completeIfAllCame_33 rfl (by decide) ?_
    refine gb_iastN (q := 35) (j := 0) (i := 1) dX7_completeIfAllCame_34 rfl hB rfl rfl rfl (by omega) (by decide) (fun g hB => ?_)
    exact g_vret dX7_completeIfAllCame_35 rfl (⟨rfl, by first | (rw [if_pos c_25]; exact hB) | (rw [if_neg (Nat.not_lt.mpr c_25)]; exact hB)⟩)
set_option maxRecDepth 20000 in
set_option maxHeartbeats 1000000 in
theorem c_tclear {l : Launch} {E : bz_E} {L : List Nat} {g : Nat → va_E} {o : Nat} {s wn cm wd : Nat → Int32} (hH : bz_H L g o (b_Tags E o s wn cm wd)) : bz_K l E mX7_clear 1 [.ref o] L g (fun r g1 => r = none ∧ bz_B L g g1 [(o, b_Tags E o (v_fill s (nI 0) 8) (v_fill wn (nI 0) 8) (v_fill cm (nI 0) 8) (v_fill wd (nI 0) 32))]) := by
  refine bz_K.of (by decide) (bz_le rfl) (fun sz => ?_)
  have hB := bz_B.rf (bz_W.one hH)
  show bz_G _ _ _ _ _ _ _ _ _ _ _ _ 0 [(0, .ref o)] []
  refine g_aload_n (q := 1) dX7_clear_0 rfl rfl ?_
  refine gb_getf (q := 4) (j := 0) (i := 0) dX7_clear_1 rfl fl_X7_9 hB rfl rfl rfl rfl ?_
  refine g_iconst (q := 5) (v := (nI 0)) dX7_clear_4 rfl (by decide) ?_
  refine g_callS (q := 8) dX7_clear_5 rfl ks_X7_24 rfl (c_fill (by decide) ((hB.1.at (j := 0) rfl).sub 1 rfl)) (by decide) rfl (bz_le rfl) (by decide) (by decide) (fun r g1 hQ => ?_)
  obtain ⟨rfl, h1⟩ := hQ
  have hB := hB.sp (j := 0) rfl 1 rfl h1 (bz_le rfl)
  refine g_aload_n (q := 9) dX7_clear_8 rfl rfl ?_
  refine gb_getf (q := 12) (j := 0) (i := 0) dX7_clear_9 rfl fl_X7_15 hB rfl rfl rfl rfl ?_
  refine g_iconst (q := 13) (v := (nI 0)) dX7_clear_12 rfl (by decide) ?_
  refine g_callS (q := 16) dX7_clear_13 rfl ks_X7_24 rfl (c_fill (by decide) ((hB.1.at (j := 0) rfl).sub 2 rfl)) (by decide) rfl (bz_le rfl) (by decide) (by decide) (fun r g1 hQ => ?_)
  obtain ⟨rfl, h1⟩ := hQ
  have hB := hB.sp (j := 0) rfl 2 rfl h1 (bz_le rfl)
  refine g_aload_n (q := 17) dX7_clear_16 rfl rfl ?_
  refine gb_getf (q := 20) (j := 0) (i := 0) dX7_clear_17 rfl fl_X7_18 hB rfl rfl rfl rfl ?_
  refine g_iconst (q := 21) (v := (nI 0)) dX7_clear_20 rfl (by decide) ?_
  refine g_callS (q := 24) dX7_clear_21 rfl ks_X7_24 rfl (c_fill (by decide) ((hB.1.at (j := 0) rfl).sub 3 rfl)) (by decide) rfl (bz_le rfl) (by decide) (by decide) (fun r g1 hQ => ?_)
  obtain ⟨rfl, h1⟩ := hQ
  have hB := hB.sp (j := 0) rfl 3 rfl h1 (bz_le rfl)
  refine g_aload_n (q := 25) dX7_clear_24 rfl rfl ?_
  refine gb_getf (q := 28) (j := 0) (i := 0) dX7_clear_25 rfl fl_X7_21 hB rfl rfl rfl rfl ?_
  refine g_iconst (q := 29) (v := (nI 0)) dX7_clear_28 rfl (by decide) ?_
  refine g_callS (q := 32) dX7_clear_29 rfl ks_X7_24 rfl (c_fill (by decide) ((hB.1.at (j := 0) rfl).sub 4 rfl)) (by decide) rfl (bz_le rfl) (by decide) (by decide) (fun r g1 hQ => ?_)
  obtain ⟨rfl, h1⟩ := hQ
  have hB := hB.sp (j := 0) rfl 4 rfl h1 (bz_le rfl)
  exact g_vret dX7_clear_32 rfl (⟨rfl, hB⟩)
set_option maxRecDepth 20000 in
set_option maxHeartbeats 1000000 in
theorem c_tcopyFrom {l : Launch} {E : bz_E} {L : List Nat} {g : Nat → va_E} {o p : Nat} {s wn cm wd s2 wn2 cm2 wd2 : Nat → Int32} (hH : bz_H L g o (b_Tags E o s wn cm wd)) (hJ : bz_H L g p (b_Tags E p s2 wn2 cm2 wd2)) (hd : o + 5 ≤ p ∨ p + 5 ≤ o) : bz_K l E mX7_copyFrom 1 [.ref o, .ref p] L g (fun r g1 => r = none ∧ bz_B L g g1 [(o, b_Tags E o (va_cpy s2 s 0 0 8) (va_cpy wn2 wn 0 0 8) (va_cpy cm2 cm 0 0 8) (va_cpy wd2 wd 0 0 32))]) := by
  refine bz_K.of (by decide) (bz_le rfl) (fun sz => ?_)
  have hB := bz_B.rf (bz_W.two hH hJ hd)
  show bz_G _ _ _ _ _ _ _ _ _ _ _ _ 0 [(0, .ref o), (1, .ref p)] []
  refine g_aload_n (q := 1) dX7_copyFrom_0 rfl rfl ?_
  refine gb_getf (q := 4) (j := 1) (i := 0) dX7_copyFrom_1 rfl fl_X7_9 hB rfl rfl rfl rfl ?_
  refine g_iconst (q := 5) (v := (nI 0)) dX7_copyFrom_4 rfl (by decide) ?_
  refine g_aload_n (q := 6) dX7_copyFrom_5 rfl rfl ?_
  refine gb_getf (q := 9) (j := 0) (i := 0) dX7_copyFrom_6 rfl fl_X7_9 hB rfl rfl rfl rfl ?_
  refine g_iconst (q := 10) (v := (nI 0)) dX7_copyFrom_9 rfl (by decide) ?_
  refine g_bipush (q := 12) (v := (nI 8)) dX7_copyFrom_10 rfl (by decide) ?_
  refine gb_copyi (q := 15) (j0 := 1) (i0 := 1) (j1 := 0) (i1 := 1) dX7_copyFrom_12 rfl kc_X7_30 (by decide) (bz_le rfl) hB rfl rfl rfl rfl rfl rfl (by omega) (by omega) (by decide) (by decide) (fun g hB => ?_)
  refine g_aload_n (q := 16) dX7_copyFrom_15 rfl rfl ?_
  refine gb_getf (q := 19) (j := 1) (i := 0) dX7_copyFrom_16 rfl fl_X7_15 hB rfl rfl rfl rfl ?_
  refine g_iconst (q := 20) (v := (nI 0)) dX7_copyFrom_19 rfl (by decide) ?_
  refine g_aload_n (q := 21) dX7_copyFrom_20 rfl rfl ?_
  refine gb_getf (q := 24) (j := 0) (i := 0) dX7_copyFrom_21 rfl fl_X7_15 hB rfl rfl rfl rfl ?_
  refine g_iconst (q := 25) (v := (nI 0)) dX7_copyFrom_24 rfl (by decide) ?_
  refine g_bipush (q := 27) (v := (nI 8)) dX7_copyFrom_25 rfl (by decide) ?_
  refine gb_copyi (q := 30) (j0 := 1) (i0 := 2) (j1 := 0) (i1 := 2) dX7_copyFrom_27 rfl kc_X7_30 (by decide) (bz_le rfl) hB rfl rfl rfl rfl rfl rfl (by omega) (by omega) (by decide) (by decide) (fun g hB => ?_)
  refine g_aload_n (q := 31) dX7_copyFrom_30 rfl rfl ?_
  refine gb_getf (q := 34) (j := 1) (i := 0) dX7_copyFrom_31 rfl fl_X7_18 hB rfl rfl rfl rfl ?_
  refine g_iconst (q := 35) (v := (nI 0)) dX7_copyFrom_34 rfl (by decide) ?_
  refine g_aload_n (q := 36) dX7_copyFrom_35 rfl rfl ?_
  refine gb_getf (q := 39) (j := 0) (i := 0) dX7_copyFrom_36 rfl fl_X7_18 hB rfl rfl rfl rfl ?_
  refine g_iconst (q := 40) (v := (nI 0)) dX7_copyFrom_39 rfl (by decide) ?_
  refine g_bipush (q := 42) (v := (nI 8)) dX7_copyFrom_40 rfl (by decide) ?_
  refine gb_copyi (q := 45) (j0 := 1) (i0 := 3) (j1 := 0) (i1 := 3) dX7_copyFrom_42 rfl kc_X7_30 (by decide) (bz_le rfl) hB rfl rfl rfl rfl rfl rfl (by omega) (by omega) (by decide) (by decide) (fun g hB => ?_)
  refine g_aload_n (q := 46) dX7_copyFrom_45 rfl rfl ?_
  refine gb_getf (q := 49) (j := 1) (i := 0) dX7_copyFrom_46 rfl fl_X7_21 hB rfl rfl rfl rfl ?_
  refine g_iconst (q := 50) (v := (nI 0)) dX7_copyFrom_49 rfl (by decide) ?_
  refine g_aload_n (q := 51) dX7_copyFrom_50 rfl rfl ?_
  refine gb_getf (q := 54) (j := 0) (i := 0) dX7_copyFrom_51 rfl fl_X7_21 hB rfl rfl rfl rfl ?_
  refine g_iconst (q := 55) (v := (nI 0)) dX7_copyFrom_54 rfl (by decide) ?_
  refine g_bipush (q := 57) (v := (nI 32)) dX7_copyFrom_55 rfl (by decide) ?_
  refine gb_copyi (q := 60) (j0 := 1) (i0 := 4) (j1 := 0) (i1 := 4) dX7_copyFrom_57 rfl kc_X7_30 (by decide) (bz_le rfl) hB rfl rfl rfl rfl rfl rfl (by omega) (by omega) (by decide) (by decide) (fun g hB => ?_)
  exact g_vret dX7_copyFrom_60 rfl (⟨rfl, bz_B.fst hB hJ⟩)
def v_low (s : Nat → Int32) (i : Nat) : Nat → Int32
  | 0 => -1
  | m + 1 => if s i = 0 then nI i else v_low s (i + 1) m
set_option maxRecDepth 20000 in
set_option maxHeartbeats 1000000 in
theorem c_lowestFree {l : Launch} {E : bz_E} {L : List Nat} {g : Nat → va_E} {o c : Nat} {s wn cm wd : Nat → Int32} (hc : c ≤ 8) (hH : bz_H L g o (b_Tags E o s wn cm wd)) : bz_K l E mX7_lowestFree 2 [.ref o, .int (nI c)] L g (fun r g1 => r = some (.int (v_low s 0 c)) ∧ g1 = g) := by
  refine bz_K.of (by decide) (bz_le rfl) (fun sz => ?_)
  have hB := bz_B.rf (bz_W.one hH)
  show bz_G _ _ _ _ _ _ _ _ _ _ _ _ 0 [(0, .ref o), (1, .int (nI c))] []
  have K : ∀ (m i : Nat), i + m = c → bz_G l E mX7_lowestFree (bz_R 2 0 0) L sz (bz_Fm E L sz (fun r g1 => r = some (.int (v_low s i m)) ∧ g1 = g)) sz 0 0 L g 2 [(2, .int (nI i)), (0, .ref o), (1, .int (nI c))] [] := by
    intro m
    induction m with
    | zero =>
      intro i hi
      refine g_iload_n (q := 3) dX7_lowestFree_2 rfl rfl ?_
      refine g_iload_n (q := 4) dX7_lowestFree_3 rfl rfl ?_
      refine g_icmpN_ge (q := 7) (t := 23) dX7_lowestFree_4 rfl (by decide) (by omega) (by omega) (fun _ => ?_) (fun c => absurd c (by omega))
      refine g_iconst (q := 24) (v := (-1)) dX7_lowestFree_23 rfl (by decide) ?_
      exact g_iret dX7_lowestFree_24 rfl (⟨rfl, rfl⟩)
    | succ m ih =>
      intro i hi
      refine g_iload_n (q := 3) dX7_lowestFree_2 rfl rfl ?_
      refine g_iload_n (q := 4) dX7_lowestFree_3 rfl rfl ?_
      refine g_icmpN_ge (q := 7) (t := 23) dX7_lowestFree_4 rfl (by decide) (by omega) (by omega) (fun c => absurd c (by omega)) (fun _ => ?_)
      refine g_aload_n (q := 8) dX7_lowestFree_7 rfl rfl ?_
      refine g_iload_n (q := 9) dX7_lowestFree_8 rfl rfl ?_
      refine gb_callV (q := 12) (j := 0) (i := 0) dX7_lowestFree_9 rfl kv_X7_50 (c_stateOf (by omega) hH) rfl (by decide) hB rfl rfl rfl rfl (bz_le rfl) (by decide) (by decide) (fun r g1 hQ => ?_)
      obtain ⟨rfl, hg⟩ := hQ
      have hg := hg.symm
      subst hg
      refine g_if_ne (q := 15) (t := 17) dX7_lowestFree_12 rfl (by decide) (fun c_12 => ?_) (fun c_12 => ?_)
      · refine g_iincN (q := 20) (c := 1) dX7_lowestFree_17 rfl (by decide) rfl rfl (by decide) ?_
        refine g_goto (q := 2) dX7_lowestFree_20 (by decide) ?_
        refine g_lvs (lv1 := [(2, .int (nI (i + 1))), (0, .ref o), (1, .int (nI c))]) ⟨rfl, rfl, rfl, trivial⟩ ?_
        have h2 := ih (i + 1) (by omega)
        rw [v_low, if_neg c_12]
        exact h2
      · refine g_iload_n (q := 16) dX7_lowestFree_15 rfl rfl ?_
        exact g_iret dX7_lowestFree_16 rfl (⟨by rw [v_low, if_pos c_12], rfl⟩)
  refine g_iconst (q := 1) (v := (nI 0)) dX7_lowestFree_0 rfl (by decide) ?_
  refine g_istore_n (q := 2) rfl dX7_lowestFree_1 rfl (by decide) rfl ?_
  refine g_lvs (lv1 := [(2, .int (nI 0)), (0, .ref o), (1, .int (nI c))]) ⟨rfl, rfl, rfl, trivial⟩ ?_
  exact K c 0 (by omega)
