/-! THE LAW: its loop and its beginning -/
theorem lw_63 (v : Int32) : ∃ c : Nat, c < 64 ∧ v &&& nI 63 = nI c := by
  refine ⟨(v &&& nI 63).toBitVec.toNat, ?_, ?_⟩
  · rw [Int32.toBitVec_and, BitVec.toNat_and]
    have e : (nI 63).toBitVec.toNat = 63 := by decide
    rw [e]
    exact Nat.lt_of_le_of_lt Nat.and_le_right (by decide)
  · apply Int32.toBitVec_inj.mp
    apply BitVec.eq_of_toNat_eq
    have hlt := (v &&& nI 63).toBitVec.isLt
    generalize (v &&& nI 63).toBitVec.toNat = c at *
    show c = (BitVec.ofInt 32 (c : Int)).toNat
    rw [BitVec.toNat_ofInt]
    omega
theorem lw_cmp {N i : Nat} (hN : N ≤ 3072) (hi : i ≤ 3100) : (nI N - nI 6 < nI i) ↔ N < i + 6 := by
  rw [Int32.lt_iff_toInt_lt, nI_toInt (show i < 2 ^ 31 by omega)]
  rcases Nat.lt_or_ge N 6 with c | c
  · have h : ∀ M, M < 6 → (nI M - nI 6).toInt < 0 := by decide
    have := h N c
    omega
  · rw [show nI N - nI 6 = nI (N - 6) from bz_subI c, nI_toInt (show N - 6 < 2 ^ 31 by omega)]
    omega
theorem w_X.grow {E : bz_E} {L L1 : List Nat} {g : Nat → va_E} {o : Nat} {A : WA} (h : w_X E L g o A) (hL : ∀ x ∈ L, x ∈ L1) : w_X E L1 g o A := by
  obtain ⟨R, hW, hk⟩ := h
  exact ⟨R, ⟨fun b hb i e he => ⟨hL _ (hW.1 b hb i e he).1, (hW.1 b hb i e he).2⟩, hW.2⟩, hk⟩
theorem bz_H.grow {L L1 : List Nat} {g : Nat → va_E} {o : Nat} {es : List va_E} (h : bz_H L g o es) (hL : ∀ x ∈ L, x ∈ L1) : bz_H L1 g o es := fun i e he => ⟨hL _ (h i e he).1, (h i e he).2⟩
theorem bz_H.keep {L : List Nat} {g g1 : Nat → va_E} {o : Nat} {es : List va_E} (h : bz_H L g o es) (hg : ∀ x, o ≤ x → x < o + es.length → g1 x = g x) : bz_H L g1 o es := fun i e he => ⟨(h i e he).1, by
  have := (List.getElem?_eq_some_iff.mp he).1
  rw [hg _ (by omega) (by omega)]; exact (h i e he).2⟩
theorem lw_une {g : Nat → va_E} {a x : Nat} {e : va_E} (h : x ≠ a) : va_up g a e x = g x := by unfold va_up; rw [if_neg h]
theorem lw_ueq {g : Nat → va_E} {a : Nat} {e : va_E} : va_up g a e a = e := by unfold va_up; rw [if_pos rfl]
set_option maxRecDepth 20000 in
set_option maxHeartbeats 1000000 in
theorem lw_sw {l : Launch} {E : bz_E} {z0 : Nat} {s0 : State} {b N : Nat} {xs : Nat → Int32} {sz k n : Nat} {L : List Nat} {g : Nat → va_E} {o i : Nat} {A : WA} {I : Nat → Int32} {B : Nat → Nat → Int32} {U : Nat → Int64} {V : Nat → UInt64} (hl : l.stackTraces = false) (hX : va_X b N xs s0 s0.heap) (hbl : b < s0.heap.size) (hN : N ≤ 3072) (hi : i + 6 ≤ N) (hJ : lw_J E L g o A I B U V) (hkc : k + 1 ≤ 601024) (hns : n + 6 ≤ 7293034) (kk : ∀ (g1 : Nat → va_E) (z1 : Nat) (A1 : WA) (I1 : Nat → Int32) (B1 : Nat → Nat → Int32) (U1 : Nat → Int64) (V1 : Nat → UInt64), lw_J E L g1 o A1 I1 B1 U1 V1 → bz_G l E mL_law room_1 [] z0 (lw_F s0 b) z1 (k + 1) (n + 6) L g1 2172 [(5, .int (nI i)), (4, .ref (o + 424)), (3, .ref (o + 423)), (2, .ref (o + 407)), (1, .ref o), (0, .ref b)] []) : ∀ c : Nat, c < 33 → bz_G l E mL_law room_1 [] z0 (lw_F s0 b) sz k n L g 45 [(5, .int (nI i)), (4, .ref (o + 424)), (3, .ref (o + 423)), (2, .ref (o + 407)), (1, .ref o), (0, .ref b)] [.int (nI c)]
  | 0, _ => g_tableIn (off := 147) (t := 192) dL_law_45 (by decide) (by decide) (by decide) (by decide) (lb_0 hl hX hbl hN hi hJ hkc hns kk)
  | 1, _ => g_tableIn (off := 220) (t := 265) dL_law_45 (by decide) (by decide) (by decide) (by decide) (lb_1 hl hX hbl hN hi hJ hkc hns kk)
  | 2, _ => g_tableIn (off := 276) (t := 321) dL_law_45 (by decide) (by decide) (by decide) (by decide) (lb_2 hl hX hbl hN hi hJ hkc hns kk)
  | 3, _ => g_tableIn (off := 289) (t := 334) dL_law_45 (by decide) (by decide) (by decide) (by decide) (lb_3 hl hX hbl hN hi hJ hkc hns kk)
  | 4, _ => g_tableIn (off := 302) (t := 347) dL_law_45 (by decide) (by decide) (by decide) (by decide) (lb_4 hl hX hbl hN hi hJ hkc hns kk)
  | 5, _ => g_tableIn (off := 405) (t := 450) dL_law_45 (by decide) (by decide) (by decide) (by decide) (lb_5 hl hX hbl hN hi hJ hkc hns kk)
  | 6, _ => g_tableIn (off := 418) (t := 463) dL_law_45 (by decide) (by decide) (by decide) (by decide) (lb_6 hl hX hbl hN hi hJ hkc hns kk)
  | 7, _ => g_tableIn (off := 493) (t := 538) dL_law_45 (by decide) (by decide) (by decide) (by decide) (lb_7 hl hX hbl hN hi hJ hkc hns kk)
  | 8, _ => g_tableIn (off := 549) (t := 594) dL_law_45 (by decide) (by decide) (by decide) (by decide) (lb_8 hl hX hbl hN hi hJ hkc hns kk)
  | 9, _ => g_tableIn (off := 617) (t := 662) dL_law_45 (by decide) (by decide) (by decide) (by decide) (lb_9 hl hX hbl hN hi hJ hkc hns kk)
  | 10, _ => g_tableIn (off := 685) (t := 730) dL_law_45 (by decide) (by decide) (by decide) (by decide) (lb_10 hl hX hbl hN hi hJ hkc hns kk)
  | 11, _ => g_tableIn (off := 753) (t := 798) dL_law_45 (by decide) (by decide) (by decide) (by decide) (lb_11 hl hX hbl hN hi hJ hkc hns kk)
  | 12, _ => g_tableIn (off := 809) (t := 854) dL_law_45 (by decide) (by decide) (by decide) (by decide) (lb_12 hl hX hbl hN hi hJ hkc hns kk)
  | 13, _ => g_tableIn (off := 877) (t := 922) dL_law_45 (by decide) (by decide) (by decide) (by decide) (lb_13 hl hX hbl hN hi hJ hkc hns kk)
  | 14, _ => g_tableIn (off := 945) (t := 990) dL_law_45 (by decide) (by decide) (by decide) (by decide) (lb_14 hl hX hbl hN hi hJ hkc hns kk)
  | 15, _ => g_tableIn (off := 1013) (t := 1058) dL_law_45 (by decide) (by decide) (by decide) (by decide) (lb_15 hl hX hbl hN hi hJ hkc hns kk)
  | 16, _ => g_tableIn (off := 1081) (t := 1126) dL_law_45 (by decide) (by decide) (by decide) (by decide) (lb_16 hl hX hbl hN hi hJ hkc hns kk)
  | 17, _ => g_tableIn (off := 1161) (t := 1206) dL_law_45 (by decide) (by decide) (by decide) (by decide) (lb_17 hl hX hbl hN hi hJ hkc hns kk)
  | 18, _ => g_tableIn (off := 1217) (t := 1262) dL_law_45 (by decide) (by decide) (by decide) (by decide) (lb_18 hl hX hbl hN hi hJ hkc hns kk)
  | 19, _ => g_tableIn (off := 1273) (t := 1318) dL_law_45 (by decide) (by decide) (by decide) (by decide) (lb_19 hl hX hbl hN hi hJ hkc hns kk)
  | 20, _ => g_tableIn (off := 1350) (t := 1395) dL_law_45 (by decide) (by decide) (by decide) (by decide) (lb_20 hl hX hbl hN hi hJ hkc hns kk)
  | 21, _ => g_tableIn (off := 1428) (t := 1473) dL_law_45 (by decide) (by decide) (by decide) (by decide) (lb_21 hl hX hbl hN hi hJ hkc hns kk)
  | 22, _ => g_tableIn (off := 1441) (t := 1486) dL_law_45 (by decide) (by decide) (by decide) (by decide) (lb_22 hl hX hbl hN hi hJ hkc hns kk)
  | 23, _ => g_tableIn (off := 1454) (t := 1499) dL_law_45 (by decide) (by decide) (by decide) (by decide) (lb_23 hl hX hbl hN hi hJ hkc hns kk)
  | 24, _ => g_tableIn (off := 1467) (t := 1512) dL_law_45 (by decide) (by decide) (by decide) (by decide) (lb_24 hl hX hbl hN hi hJ hkc hns kk)
  | 25, _ => g_tableIn (off := 1535) (t := 1580) dL_law_45 (by decide) (by decide) (by decide) (by decide) (lb_25 hl hX hbl hN hi hJ hkc hns kk)
  | 26, _ => g_tableIn (off := 1591) (t := 1636) dL_law_45 (by decide) (by decide) (by decide) (by decide) (lb_26 hl hX hbl hN hi hJ hkc hns kk)
  | 27, _ => g_tableIn (off := 1711) (t := 1756) dL_law_45 (by decide) (by decide) (by decide) (by decide) (lb_27 hl hX hbl hN hi hJ hkc hns kk)
  | 28, _ => g_tableIn (off := 1819) (t := 1864) dL_law_45 (by decide) (by decide) (by decide) (by decide) (lb_28 hl hX hbl hN hi hJ hkc hns kk)
  | 29, _ => g_tableIn (off := 1927) (t := 1972) dL_law_45 (by decide) (by decide) (by decide) (by decide) (lb_29 hl hX hbl hN hi hJ hkc hns kk)
  | 30, _ => g_tableIn (off := 1995) (t := 2040) dL_law_45 (by decide) (by decide) (by decide) (by decide) (lb_30 hl hX hbl hN hi hJ hkc hns kk)
  | 31, _ => g_tableIn (off := 2008) (t := 2053) dL_law_45 (by decide) (by decide) (by decide) (by decide) (lb_31 hl hX hbl hN hi hJ hkc hns kk)
  | 32, _ => g_tableIn (off := 2071) (t := 2116) dL_law_45 (by decide) (by decide) (by decide) (by decide) (lb_32 hl hX hbl hN hi hJ hkc hns kk)
  | c + 33, h => absurd h (by omega)
set_option maxRecDepth 20000 in
set_option maxHeartbeats 1000000 in
theorem lw_loop {l : Launch} {E : bz_E} {z0 : Nat} {s0 : State} {b N : Nat} {xs : Nat → Int32} {L : List Nat} {o : Nat} (hl : l.stackTraces = false) (hX : va_X b N xs s0 s0.heap) (hbl : b < s0.heap.size) (hN : N ≤ 3072) : ∀ (m i : Nat), N + 1 ≤ i + m → i ≤ 3100 → ∀ (sz k n : Nat) (g : Nat → va_E) (A : WA) (I : Nat → Int32) (B : Nat → Nat → Int32) (U : Nat → Int64) (V : Nat → UInt64), k ≤ 425 + i → n ≤ 58113 + i → lw_J E L g o A I B U V → bz_G l E mL_law room_1 [] z0 (lw_F s0 b) sz k n L g 28 [(5, .int (nI i)), (4, .ref (o + 424)), (3, .ref (o + 423)), (2, .ref (o + 407)), (1, .ref o), (0, .ref b)] [] := by
  intro m
  induction m with
  | zero =>
    intro i hm hi4 sz k n g A I B U V hk hn hJ
    refine g_iload (q := 30) dL_law_28 rfl rfl ?_
    refine g_aload_n (q := 31) dL_law_30 rfl rfl ?_
    refine gz_len (q := 32) hX hbl dL_law_31 rfl ?_
    refine g_bipush (q := 34) (v := nI 6) dL_law_32 rfl (by decide) ?_
    refine g_isub (q := 35) dL_law_34 rfl ?_
    refine g_icmp_gt (q := 38) (t := 2178) dL_law_35 rfl (by decide) (fun _ => ?_) (fun c => absurd ((lw_cmp hN hi4).mpr (by omega)) c)
    refine g_iconst (q := 2179) (v := 1) dL_law_2178 rfl (by decide) ?_
    exact gz_ret (by omega) (by omega) dL_law_2179
  | succ m ih =>
    intro i hm hi4 sz k n g A I B U V hk hn hJ
    refine g_iload (q := 30) dL_law_28 rfl rfl ?_
    refine g_aload_n (q := 31) dL_law_30 rfl rfl ?_
    refine gz_len (q := 32) hX hbl dL_law_31 rfl ?_
    refine g_bipush (q := 34) (v := nI 6) dL_law_32 rfl (by decide) ?_
    refine g_isub (q := 35) dL_law_34 rfl ?_
    by_cases hi : i + 6 ≤ N
    · refine g_icmp_gt (q := 38) (t := 2178) dL_law_35 rfl (by decide) (fun c => absurd ((lw_cmp hN hi4).mp c) (by omega)) (fun _ => ?_)
      refine g_aload_n (q := 39) dL_law_38 rfl rfl ?_
      refine g_iload (q := 41) dL_law_39 rfl rfl ?_
      refine gz_ld (q := 42) hX hbl hN (by omega) dL_law_41 rfl ?_
      refine g_bipush (q := 44) (v := nI 63) dL_law_42 rfl (by decide) ?_
      refine g_iand (q := 45) dL_law_44 rfl ?_
      obtain ⟨c, hc, he⟩ := lw_63 (xs i)
      refine g_eqi (v := nI c) he ?_
      have kk : ∀ (g1 : Nat → va_E) (z1 : Nat) (A1 : WA) (I1 : Nat → Int32) (B1 : Nat → Nat → Int32) (U1 : Nat → Int64) (V1 : Nat → UInt64), lw_J E L g1 o A1 I1 B1 U1 V1 → bz_G l E mL_law room_1 [] z0 (lw_F s0 b) z1 (k + 1) (n + 6) L g1 2172 [(5, .int (nI i)), (4, .ref (o + 424)), (3, .ref (o + 423)), (2, .ref (o + 407)), (1, .ref o), (0, .ref b)] [] := by
        intro g1 z1 A1 I1 B1 U1 V1 hJ1
        refine g_iincN (q := 2175) (c := 6) dL_law_2172 rfl (by decide) rfl rfl (by decide) ?_
        refine g_goto (q := 28) dL_law_2175 (by decide) ?_
        refine g_lvs (lv1 := [(5, .int (nI (i + 6))), (4, .ref (o + 424)), (3, .ref (o + 423)), (2, .ref (o + 407)), (1, .ref o), (0, .ref b)]) ⟨rfl, rfl, rfl, rfl, rfl, rfl, trivial⟩ ?_
        exact ih (i + 6) (by omega) (by omega) z1 _ _ g1 A1 I1 B1 U1 V1 (by omega) (by omega) hJ1
      by_cases h33 : c < 33
      · exact lw_sw hl hX hbl hN hi hJ (by omega) (by omega) kk c h33
      · refine g_tableOut (t := 2172) dL_law_45 (Or.inr (by rw [nI_toInt (show c < 2 ^ 31 by omega)]; omega)) (by decide) ?_
        refine g_widen (k1 := k + 1) (n1 := n + 6) (by omega) (by omega) ?_
        exact kk g sz A I B U V hJ
    · refine g_icmp_gt (q := 38) (t := 2178) dL_law_35 rfl (by decide) (fun _ => ?_) (fun c => absurd ((lw_cmp hN hi4).mpr (by omega)) c)
      refine g_iconst (q := 2179) (v := 1) dL_law_2178 rfl (by decide) ?_
      exact gz_ret (by omega) (by omega) dL_law_2179
set_option maxRecDepth 20000 in
set_option maxHeartbeats 1000000 in
theorem lw_begin {l : Launch} {E : bz_E} {s0 : State} {b N : Nat} {xs : Nat → Int32} {g : Nat → va_E} {o : Nat} (hl : l.stackTraces = false) (hX : va_X b N xs s0 s0.heap) (hbl : b < s0.heap.size) (hN : N ≤ 3072) : bz_G l E mL_law room_1 [] o (lw_F s0 b) o 0 0 [] g 0 [(0, .ref b)] [] := by
  refine g_newobj (q := 3) (ci := 8) (fs := [.null, .int 0, .int 0, .null, .null, .null, .null, .null, .null, .null, .null, .int 0, .int 0]) dL_law_0 rfl rfl inX8 tyX8_ok (bz_mw 109 (by decide +kernel)) (bz_mw 110 (by decide +kernel)) (bz_mw 83 (by decide +kernel)) (fun j hj => by rcases (show j = 0 ∨ j = 1 ∨ j = 2 ∨ j = 3 ∨ j = 4 ∨ j = 5 ∨ j = 6 ∨ j = 7 ∨ j = 8 ∨ j = 9 ∨ j = 10 ∨ j = 11 ∨ j = 12 by omega) with rfl | rfl | rfl | rfl | rfl | rfl | rfl | rfl | rfl | rfl | rfl | rfl | rfl <;> rfl) (by decide) (by decide) ?_
  refine g_dup (q := 4) dL_law_3 rfl rfl ?_
  have h8 : bz_H ([] ++ [o]) (va_up g o (.inr (8, [.null, .int 0, .int 0, .null, .null, .null, .null, .null, .null, .null, .null, .int 0, .int 0]))) o [.inr (8, [.null, .int 0, .int 0, .null, .null, .null, .null, .null, .null, .null, .null, .int 0, .int 0])] := fun i e he => by
    have hi : i = 0 := by have := (List.getElem?_eq_some_iff.mp he).1; simpa using this
    subst hi
    cases he
    exact ⟨by simp, lw_ueq⟩
  refine gi_call (q := 7) (b := o) dL_law_4 rfl ⟨kd_X8_init, Or.inl (bz_mw 111 (by decide +kernel)), bz_mw 112 (by decide +kernel), rfl, rfl⟩ (ci_X8 h8) (by decide) (by decide) rfl rfl (bz_le rfl) (by decide) (by decide) (fun g1 hQ => ?_)
  obtain ⟨⟨s, hws, hX8⟩, -⟩ := hQ
  refine g_astore_n (q := 8) rfl dL_law_7 rfl (by decide) rfl ?_
  generalize hL1 : bz_pool ([] ++ [o]) o 406 = L1 at *
  refine g_newobj (q := 11) (ci := 9) (fs := [.int 0, .null, .null, .null, .null, .null, .null, .null, .null, .null, .int 0, .int 0, .int 0, .int 0, .int 0, .int 0, .int 0, .int 0, .int 0, .int 0, .int 0, .int 0, .null, .null, .int 0, .null, .int 0, .int 0, .null, .null, .null]) dL_law_8 rfl rfl inX9 tyX9_ok (bz_mw 1187 (by decide +kernel)) (bz_mw 1188 (by decide +kernel)) (bz_mw 93 (by decide +kernel)) (fun j hj => by rcases (show j = 0 ∨ j = 1 ∨ j = 2 ∨ j = 3 ∨ j = 4 ∨ j = 5 ∨ j = 6 ∨ j = 7 ∨ j = 8 ∨ j = 9 ∨ j = 10 ∨ j = 11 ∨ j = 12 ∨ j = 13 ∨ j = 14 ∨ j = 15 ∨ j = 16 ∨ j = 17 ∨ j = 18 ∨ j = 19 ∨ j = 20 ∨ j = 21 ∨ j = 22 ∨ j = 23 ∨ j = 24 ∨ j = 25 ∨ j = 26 ∨ j = 27 ∨ j = 28 ∨ j = 29 ∨ j = 30 by omega) with rfl | rfl | rfl | rfl | rfl | rfl | rfl | rfl | rfl | rfl | rfl | rfl | rfl | rfl | rfl | rfl | rfl | rfl | rfl | rfl | rfl | rfl | rfl | rfl | rfl | rfl | rfl | rfl | rfl | rfl | rfl <;> rfl) (by decide) (by decide) ?_
  refine g_dup (q := 12) dL_law_11 rfl rfl ?_
  have h9 : bz_H (L1 ++ [o + 1 + 406]) (va_up g1 (o + 1 + 406) (.inr (9, [.int 0, .null, .null, .null, .null, .null, .null, .null, .null, .null, .int 0, .int 0, .int 0, .int 0, .int 0, .int 0, .int 0, .int 0, .int 0, .int 0, .int 0, .int 0, .null, .null, .int 0, .null, .int 0, .int 0, .null, .null, .null]))) (o + 1 + 406) [.inr (9, [.int 0, .null, .null, .null, .null, .null, .null, .null, .null, .null, .int 0, .int 0, .int 0, .int 0, .int 0, .int 0, .int 0, .int 0, .int 0, .int 0, .int 0, .int 0, .null, .null, .int 0, .null, .int 0, .int 0, .null, .null, .null])] := fun i e he => by
    have hi : i = 0 := by have := (List.getElem?_eq_some_iff.mp he).1; simpa using this
    subst hi
    cases he
    exact ⟨by simp, lw_ueq⟩
  refine gi_call (q := 15) (b := o + 1 + 406) dL_law_12 rfl ⟨kd_X9_init, Or.inl (bz_mw 1189 (by decide +kernel)), bz_mw 1190 (by decide +kernel), rfl, rfl⟩ (ci_X9 h9) (by decide) (by decide) rfl rfl (bz_le rfl) (by decide) (by decide) (fun g2 hQ => ?_)
  obtain ⟨⟨I9, A9, hM, q0, q10, q17, q27, qpl, qst, q9, q150, q151⟩, hlow⟩ := hQ
  have hX8 : w_X E (bz_pool (L1 ++ [o + 1 + 406]) (o + 1 + 406) 15) g2 o (w_A0 s) := (hX8.grow (fun x hx => List.mem_append_left _ (List.mem_append_left _ hx))).keep (fun x h1 h2 => (hlow x (by omega)).trans (lw_une (by omega)))
  generalize hL2 : bz_pool (L1 ++ [o + 1 + 406]) (o + 1 + 406) 15 = L2 at *
  refine g_astore_n (q := 16) rfl dL_law_15 rfl (by decide) rfl ?_
  refine g_iconst (q := 17) (v := nI 1) dL_law_16 rfl (by decide) ?_
  refine g_newarr (q := 19) (t0 := 4) (ty := .long) (x0 := .inr (.inl (fun _ => 0))) dL_law_17 rfl rfl (bz_mw 1663 (by decide +kernel)) rfl (fun _ _ h => h) (fun _ => rfl) (by decide) (by decide) (by decide) (by decide) ?_
  refine g_astore_n (q := 20) rfl dL_law_19 rfl (by decide) rfl ?_
  refine g_iconst (q := 21) (v := nI 1) dL_law_20 rfl (by decide) ?_
  refine g_newarr (q := 23) (t0 := 5) (ty := .double) (x0 := .inr (.inr (.inr (.inl (fun _ => 0))))) dL_law_21 rfl rfl (bz_mw 1664 (by decide +kernel)) rfl (fun _ _ h => h) (fun _ => rfl) (by decide) (by decide) (by decide) (by decide) ?_
  refine g_astore (q := 25) dL_law_23 rfl (by decide) rfl ?_
  refine g_iconst (q := 26) (v := nI 0) dL_law_25 rfl (by decide) ?_
  refine g_istore (q := 28) dL_law_26 rfl (by decide) rfl ?_
  refine g_lvs (lv1 := [(5, .int (nI 0)), (4, .ref (o + 424)), (3, .ref (o + 423)), (2, .ref (o + 407)), (1, .ref o), (0, .ref b)]) ⟨rfl, rfl, rfl, rfl, rfl, rfl, trivial⟩ ?_
  refine lw_loop hl hX hbl hN (N + 1) 0 (by omega) (by omega) _ _ _ _ (w_A0 s) I9 A9 (fun _ => 0) (fun _ => 0) (by decide) (by decide) ⟨?_, ?_, ?_, ?_, lw_tie0 d_0_ok qpl hws qst q27 q10 (fun i _ => (q9 i).trans rfl) q17 q150 q151⟩
  · exact (hX8.grow (fun x hx => List.mem_append_left _ (List.mem_append_left _ hx))).keep (fun x h1 h2 => (lw_une (by omega)).trans (lw_une (by omega)))
  · exact (hM.grow (fun x hx => List.mem_append_left _ (List.mem_append_left _ hx))).keep (fun x h1 h2 => by
      have h2 : x < o + 1 + 406 + 16 := h2
      exact (lw_une (by omega)).trans (lw_une (by omega)))
  · intro i e he
    have hi : i = 0 := by have := (List.getElem?_eq_some_iff.mp he).1; simpa using this
    subst hi
    cases he
    exact ⟨List.mem_append_left _ (List.mem_append_right _ (by simp)), (lw_une (by omega)).trans lw_ueq⟩
  · intro i e he
    have hi : i = 0 := by have := (List.getElem?_eq_some_iff.mp he).1; simpa using this
    subst hi
    cases he
    exact ⟨List.mem_append_right _ (by simp), lw_ueq⟩
