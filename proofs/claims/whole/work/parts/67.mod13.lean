/-! the reference: mayPass, holds, isSafe, data -/
theorem m_hasb : ∀ b, b < 16 → ∀ i, i < 4 → (if (nI b >>> (nI i &&& 31)) &&& 1 = 1 then (1 : Int32) else 0) = nI (if b.testBit i then 1 else 0) := by decide +kernel

set_option maxRecDepth 20000 in
set_option maxHeartbeats 1000000 in
theorem c_mmayPass2 {l : Launch} {E : bz_E} {L : List Nat} {g : Nat → va_E} {o : Nat} {I : Nat → Int32} {A : Nat → Nat → Int32} {v w : Int32} {rx : Bool} (hb : m_bad v 4 = true) (hH : bz_H L g o (b_Mod E o I A)) : bz_K l E mX9_mayPass 2 [.ref o, .int v, .int w, .int (tB rx)] L g (fun r g1 => r = some (.int (nI 0)) ∧ bz_B L g g1 [(o, b_Mod E o (va_up I 0 (nI 1)) A)]) := by
  refine bz_K.of (by decide) (bz_le rfl) (fun sz => ?_)
  have hB := bz_B.rf (bz_W.one hH)
  show bz_G _ _ _ _ _ _ _ _ _ _ _ _ 0 [(0, .ref o), (1, .int v), (2, .int w), (3, .int (tB rx))] []
  refine g_aload_n (q := 1) dX9_mayPass_0 rfl rfl ?_
  refine g_iconst (q := 2) (v := (nI 0)) dX9_mayPass_1 rfl (by decide) ?_
  refine gb_putf (q := 5) (j := 0) (i := 0) dX9_mayPass_2 rfl fp_X9_70 hB rfl rfl rfl (bz_le rfl) rfl rfl (fun g hB => ?_)
  refine g_aload_n (q := 6) dX9_mayPass_5 rfl rfl ?_
  refine g_iload_n (q := 7) dX9_mayPass_6 rfl rfl ?_
  refine g_iconst (q := 8) (v := (nI 4)) dX9_mayPass_7 rfl (by decide) ?_
  refine gb_callV (q := 11) (j := 0) (i := 0) dX9_mayPass_8 rfl kv_X9_220 (c_mno1 (I := va_up I 0 (nI 0)) (A := A) hb rfl (hB.1.at (j := 0) rfl)) rfl (by decide) hB rfl rfl rfl rfl (bz_le rfl) (by decide) (by decide) (fun r g1 hQ => ?_)
  obtain ⟨rfl, h1⟩ := hQ
  have hB := hB.sp (j := 0) rfl 0 rfl h1 (bz_le rfl)
  refine g_ifN_ne (q := 14) (t := 37) dX9_mayPass_11 rfl (by decide) (by omega) (fun _ => ?_) (fun c => absurd c (by omega))
  refine g_iconst (q := 38) (v := (nI 0)) dX9_mayPass_37 rfl (by decide) ?_
  exact g_zret dX9_mayPass_38 rfl rfl ⟨rfl, hB⟩
set_option maxRecDepth 20000 in
set_option maxHeartbeats 1000000 in
theorem c_mmayPass1 {l : Launch} {E : bz_E} {L : List Nat} {g : Nat → va_E} {o : Nat} {I : Nat → Int32} {A : Nat → Nat → Int32} {a : Nat} {w : Int32} {rx : Bool} (ha : a < 4) (hb : m_bad w 4 = true) (hH : bz_H L g o (b_Mod E o I A)) : bz_K l E mX9_mayPass 2 [.ref o, .int (nI a), .int w, .int (tB rx)] L g (fun r g1 => r = some (.int (nI 0)) ∧ bz_B L g g1 [(o, b_Mod E o (va_up I 0 (nI 1)) A)]) := by
  refine bz_K.of (by decide) (bz_le rfl) (fun sz => ?_)
  have hB := bz_B.rf (bz_W.one hH)
  show bz_G _ _ _ _ _ _ _ _ _ _ _ _ 0 [(0, .ref o), (1, .int (nI a)), (2, .int w), (3, .int (tB rx))] []
  refine g_aload_n (q := 1) dX9_mayPass_0 rfl rfl ?_
  refine g_iconst (q := 2) (v := (nI 0)) dX9_mayPass_1 rfl (by decide) ?_
  refine gb_putf (q := 5) (j := 0) (i := 0) dX9_mayPass_2 rfl fp_X9_70 hB rfl rfl rfl (bz_le rfl) rfl rfl (fun g hB => ?_)
  refine g_aload_n (q := 6) dX9_mayPass_5 rfl rfl ?_
  refine g_iload_n (q := 7) dX9_mayPass_6 rfl rfl ?_
  refine g_iconst (q := 8) (v := (nI 4)) dX9_mayPass_7 rfl (by decide) ?_
  refine gb_callV (q := 11) (j := 0) (i := 0) dX9_mayPass_8 rfl kv_X9_220 (c_mno0 (I := va_up I 0 (nI 0)) (A := A) ha (by decide) rfl (hB.1.at (j := 0) rfl)) rfl (by decide) hB rfl rfl rfl rfl (bz_le rfl) (by decide) (by decide) (fun r g1 hQ => ?_)
  obtain ⟨rfl, hg⟩ := hQ
  have hg := hg.symm
  subst hg
  refine g_ifN_ne (q := 14) (t := 37) dX9_mayPass_11 rfl (by decide) (by omega) (fun c => absurd c (by omega)) (fun _ => ?_)
  refine g_aload_n (q := 15) dX9_mayPass_14 rfl rfl ?_
  refine g_iload_n (q := 16) dX9_mayPass_15 rfl rfl ?_
  refine g_iconst (q := 17) (v := (nI 4)) dX9_mayPass_16 rfl (by decide) ?_
  refine gb_callV (q := 20) (j := 0) (i := 0) dX9_mayPass_17 rfl kv_X9_220 (c_mno1 (I := va_up I 0 (nI 0)) (A := A) hb rfl (hB.1.at (j := 0) rfl)) rfl (by decide) hB rfl rfl rfl rfl (bz_le rfl) (by decide) (by decide) (fun r g1 hQ => ?_)
  obtain ⟨rfl, h1⟩ := hQ
  have hB := hB.sp (j := 0) rfl 0 rfl h1 (bz_le rfl)
  refine g_ifN_ne (q := 23) (t := 37) dX9_mayPass_20 rfl (by decide) (by omega) (fun _ => ?_) (fun c => absurd c (by omega))
  refine g_iconst (q := 38) (v := (nI 0)) dX9_mayPass_37 rfl (by decide) ?_
  exact g_zret dX9_mayPass_38 rfl rfl ⟨rfl, hB⟩
set_option maxRecDepth 20000 in
set_option maxHeartbeats 1000000 in
theorem c_mholds2 {l : Launch} {E : bz_E} {L : List Nat} {g : Nat → va_E} {o : Nat} {I : Nat → Int32} {A : Nat → Nat → Int32} {v w : Int32} (hb : m_bad v 4 = true) (hH : bz_H L g o (b_Mod E o I A)) : bz_K l E mX9_holds 2 [.ref o, .int v, .int w] L g (fun r g1 => r = some (.int (nI 0)) ∧ bz_B L g g1 [(o, b_Mod E o (va_up I 0 (nI 1)) A)]) := by
  refine bz_K.of (by decide) (bz_le rfl) (fun sz => ?_)
  have hB := bz_B.rf (bz_W.one hH)
  show bz_G _ _ _ _ _ _ _ _ _ _ _ _ 0 [(0, .ref o), (1, .int v), (2, .int w)] []
  refine g_aload_n (q := 1) dX9_holds_0 rfl rfl ?_
  refine g_iconst (q := 2) (v := (nI 0)) dX9_holds_1 rfl (by decide) ?_
  refine gb_putf (q := 5) (j := 0) (i := 0) dX9_holds_2 rfl fp_X9_70 hB rfl rfl rfl (bz_le rfl) rfl rfl (fun g hB => ?_)
  refine g_aload_n (q := 6) dX9_holds_5 rfl rfl ?_
  refine g_iload_n (q := 7) dX9_holds_6 rfl rfl ?_
  refine g_iconst (q := 8) (v := (nI 4)) dX9_holds_7 rfl (by decide) ?_
  refine gb_callV (q := 11) (j := 0) (i := 0) dX9_holds_8 rfl kv_X9_220 (c_mno1 (I := va_up I 0 (nI 0)) (A := A) hb rfl (hB.1.at (j := 0) rfl)) rfl (by decide) hB rfl rfl rfl rfl (bz_le rfl) (by decide) (by decide) (fun r g1 hQ => ?_)
  obtain ⟨rfl, h1⟩ := hQ
  have hB := hB.sp (j := 0) rfl 0 rfl h1 (bz_le rfl)
  refine g_ifN_ne (q := 14) (t := 32) dX9_holds_11 rfl (by decide) (by omega) (fun _ => ?_) (fun c => absurd c (by omega))
  refine g_iconst (q := 33) (v := (nI 0)) dX9_holds_32 rfl (by decide) ?_
  exact g_zret dX9_holds_33 rfl rfl ⟨rfl, hB⟩
set_option maxRecDepth 20000 in
set_option maxHeartbeats 1000000 in
theorem c_mholds1 {l : Launch} {E : bz_E} {L : List Nat} {g : Nat → va_E} {o : Nat} {I : Nat → Int32} {A : Nat → Nat → Int32} {a : Nat} {w : Int32} (ha : a < 4) (hb : m_bad w 4 = true) (hH : bz_H L g o (b_Mod E o I A)) : bz_K l E mX9_holds 2 [.ref o, .int (nI a), .int w] L g (fun r g1 => r = some (.int (nI 0)) ∧ bz_B L g g1 [(o, b_Mod E o (va_up I 0 (nI 1)) A)]) := by
  refine bz_K.of (by decide) (bz_le rfl) (fun sz => ?_)
  have hB := bz_B.rf (bz_W.one hH)
  show bz_G _ _ _ _ _ _ _ _ _ _ _ _ 0 [(0, .ref o), (1, .int (nI a)), (2, .int w)] []
  refine g_aload_n (q := 1) dX9_holds_0 rfl rfl ?_
  refine g_iconst (q := 2) (v := (nI 0)) dX9_holds_1 rfl (by decide) ?_
  refine gb_putf (q := 5) (j := 0) (i := 0) dX9_holds_2 rfl fp_X9_70 hB rfl rfl rfl (bz_le rfl) rfl rfl (fun g hB => ?_)
  refine g_aload_n (q := 6) dX9_holds_5 rfl rfl ?_
  refine g_iload_n (q := 7) dX9_holds_6 rfl rfl ?_
  refine g_iconst (q := 8) (v := (nI 4)) dX9_holds_7 rfl (by decide) ?_
  refine gb_callV (q := 11) (j := 0) (i := 0) dX9_holds_8 rfl kv_X9_220 (c_mno0 (I := va_up I 0 (nI 0)) (A := A) ha (by decide) rfl (hB.1.at (j := 0) rfl)) rfl (by decide) hB rfl rfl rfl rfl (bz_le rfl) (by decide) (by decide) (fun r g1 hQ => ?_)
  obtain ⟨rfl, hg⟩ := hQ
  have hg := hg.symm
  subst hg
  refine g_ifN_ne (q := 14) (t := 32) dX9_holds_11 rfl (by decide) (by omega) (fun c => absurd c (by omega)) (fun _ => ?_)
  refine g_aload_n (q := 15) dX9_holds_14 rfl rfl ?_
  refine g_iload_n (q := 16) dX9_holds_15 rfl rfl ?_
  refine g_iconst (q := 17) (v := (nI 4)) dX9_holds_16 rfl (by decide) ?_
  refine gb_callV (q := 20) (j := 0) (i := 0) dX9_holds_17 rfl kv_X9_220 (c_mno1 (I := va_up I 0 (nI 0)) (A := A) hb rfl (hB.1.at (j := 0) rfl)) rfl (by decide) hB rfl rfl rfl rfl (bz_le rfl) (by decide) (by decide) (fun r g1 hQ => ?_)
  obtain ⟨rfl, h1⟩ := hQ
  have hB := hB.sp (j := 0) rfl 0 rfl h1 (bz_le rfl)
  refine g_ifN_ne (q := 23) (t := 32) dX9_holds_20 rfl (by decide) (by omega) (fun _ => ?_) (fun c => absurd c (by omega))
  refine g_iconst (q := 33) (v := (nI 0)) dX9_holds_32 rfl (by decide) ?_
  exact g_zret dX9_holds_33 rfl rfl ⟨rfl, hB⟩
set_option maxRecDepth 20000 in
set_option maxHeartbeats 1000000 in
theorem c_mholds0 {l : Launch} {E : bz_E} {L : List Nat} {g : Nat → va_E} {o : Nat} {I : Nat → Int32} {A : Nat → Nat → Int32} {a b : Nat} (ha : a < 4) (hb : b < 4) (hH : bz_H L g o (b_Mod E o I A)) : bz_K l E mX9_holds 2 [.ref o, .int (nI a), .int (nI b)] L g (fun r g1 => r = some (.int (tB (decide (a = b)))) ∧ bz_B L g g1 [(o, b_Mod E o (va_up I 0 (nI 0)) A)]) := by
  refine bz_K.of (by decide) (bz_le rfl) (fun sz => ?_)
  have hB := bz_B.rf (bz_W.one hH)
  show bz_G _ _ _ _ _ _ _ _ _ _ _ _ 0 [(0, .ref o), (1, .int (nI a)), (2, .int (nI b))] []
  refine g_aload_n (q := 1) dX9_holds_0 rfl rfl ?_
  refine g_iconst (q := 2) (v := (nI 0)) dX9_holds_1 rfl (by decide) ?_
  refine gb_putf (q := 5) (j := 0) (i := 0) dX9_holds_2 rfl fp_X9_70 hB rfl rfl rfl (bz_le rfl) rfl rfl (fun g hB => ?_)
  refine g_aload_n (q := 6) dX9_holds_5 rfl rfl ?_
  refine g_iload_n (q := 7) dX9_holds_6 rfl rfl ?_
  refine g_iconst (q := 8) (v := (nI 4)) dX9_holds_7 rfl (by decide) ?_
  refine gb_callV (q := 11) (j := 0) (i := 0) dX9_holds_8 rfl kv_X9_220 (c_mno0 (I := va_up I 0 (nI 0)) (A := A) ha (by decide) rfl (hB.1.at (j := 0) rfl)) rfl (by decide) hB rfl rfl rfl rfl (bz_le rfl) (by decide) (by decide) (fun r g1 hQ => ?_)
  obtain ⟨rfl, hg⟩ := hQ
  have hg := hg.symm
  subst hg
  refine g_ifN_ne (q := 14) (t := 32) dX9_holds_11 rfl (by decide) (by omega) (fun c => absurd c (by omega)) (fun _ => ?_)
  refine g_aload_n (q := 15) dX9_holds_14 rfl rfl ?_
  refine g_iload_n (q := 16) dX9_holds_15 rfl rfl ?_
  refine g_iconst (q := 17) (v := (nI 4)) dX9_holds_16 rfl (by decide) ?_
  refine gb_callV (q := 20) (j := 0) (i := 0) dX9_holds_17 rfl kv_X9_220 (c_mno0 (I := va_up I 0 (nI 0)) (A := A) hb (by decide) rfl (hB.1.at (j := 0) rfl)) rfl (by decide) hB rfl rfl rfl rfl (bz_le rfl) (by decide) (by decide) (fun r g1 hQ => ?_)
  obtain ⟨rfl, hg⟩ := hQ
  have hg := hg.symm
  subst hg
  refine g_ifN_ne (q := 23) (t := 32) dX9_holds_20 rfl (by decide) (by omega) (fun c => absurd c (by omega)) (fun _ => ?_)
  refine g_iload_n (q := 24) dX9_holds_23 rfl rfl ?_
  refine g_iload_n (q := 25) dX9_holds_24 rfl rfl ?_
  refine g_icmpN_ne (q := 28) (t := 32) dX9_holds_25 rfl (by decide) (by omega) (by omega) (fun c_25 => ?_) (fun c_25 => ?_)
  · refine g_iconst (q := 33) (v := (nI 0)) dX9_holds_32 rfl (by decide) ?_
    exact g_zret dX9_holds_33 rfl rfl ⟨by first | exact congrArg (fun z => some (Value.int z)) (tB_t (decide_eq_true (by omega))) | exact congrArg (fun z => some (Value.int z)) (tB_f (decide_eq_false (by omega))), hB⟩
  · refine g_iconst (q := 29) (v := (nI 1)) dX9_holds_28 rfl (by decide) ?_
    refine g_goto (q := 33) dX9_holds_29 (by decide) ?_
    exact g_zret dX9_holds_33 rfl rfl ⟨by first | exact congrArg (fun z => some (Value.int z)) (tB_t (decide_eq_true (by omega))) | exact congrArg (fun z => some (Value.int z)) (tB_f (decide_eq_false (by omega))), hB⟩
set_option maxRecDepth 20000 in
set_option maxHeartbeats 1000000 in
theorem c_mmayPass0 {l : Launch} {E : bz_E} {L : List Nat} {g : Nat → va_E} {o : Nat} {I : Nat → Int32} {A : Nat → Nat → Int32} {a b : Nat} {rx : Bool} {tb : Nat → Nat} (ha : a < 4) (hb : b < 4) (ht : ∀ i, i < 16 → A 4 i = nI (tb i) ∧ tb i ≤ 1) (hH : bz_H L g o (b_Mod E o I A)) : bz_K l E mX9_mayPass 2 [.ref o, .int (nI a), .int (nI b), .int (tB rx)] L g (fun r g1 => r = some (.int (tB (m_ps tb a b rx))) ∧ bz_B L g g1 [(o, b_Mod E o (va_up I 0 (nI 0)) A)]) := by
  refine bz_K.of (by decide) (bz_le rfl) (fun sz => ?_)
  show bz_G _ _ _ _ _ _ _ _ _ _ _ _ 0 [(0, .ref o), (1, .int (nI a)), (2, .int (nI b)), (3, .int (tB rx))] []
  have hB := bz_B.rf (bz_W.one hH)
  cases hp : m_ps tb a b rx with
  | true =>
    refine g_aload_n (q := 1) dX9_mayPass_0 rfl rfl ?_
    refine g_iconst (q := 2) (v := (nI 0)) dX9_mayPass_1 rfl (by decide) ?_
    refine gb_putf (q := 5) (j := 0) (i := 0) dX9_mayPass_2 rfl fp_X9_70 hB rfl rfl rfl (bz_le rfl) rfl rfl (fun g hB => ?_)
    refine g_aload_n (q := 6) dX9_mayPass_5 rfl rfl ?_
    refine g_iload_n (q := 7) dX9_mayPass_6 rfl rfl ?_
    refine g_iconst (q := 8) (v := (nI 4)) dX9_mayPass_7 rfl (by decide) ?_
    refine gb_callV (q := 11) (j := 0) (i := 0) dX9_mayPass_8 rfl kv_X9_220 (c_mno0 (I := va_up I 0 (nI 0)) (A := A) ha (by decide) rfl (hB.1.at (j := 0) rfl)) rfl (by decide) hB rfl rfl rfl rfl (bz_le rfl) (by decide) (by decide) (fun r g1 hQ => ?_)
    obtain ⟨rfl, hg⟩ := hQ
    have hg := hg.symm
    subst hg
    refine g_ifN_ne (q := 14) (t := 37) dX9_mayPass_11 rfl (by decide) (by omega) (fun c => absurd c (by omega)) (fun _ => ?_)
    refine g_aload_n (q := 15) dX9_mayPass_14 rfl rfl ?_
    refine g_iload_n (q := 16) dX9_mayPass_15 rfl rfl ?_
    refine g_iconst (q := 17) (v := (nI 4)) dX9_mayPass_16 rfl (by decide) ?_
    refine gb_callV (q := 20) (j := 0) (i := 0) dX9_mayPass_17 rfl kv_X9_220 (c_mno0 (I := va_up I 0 (nI 0)) (A := A) hb (by decide) rfl (hB.1.at (j := 0) rfl)) rfl (by decide) hB rfl rfl rfl rfl (bz_le rfl) (by decide) (by decide) (fun r g1 hQ => ?_)
    obtain ⟨rfl, hg⟩ := hQ
    have hg := hg.symm
    subst hg
    refine g_ifN_ne (q := 23) (t := 37) dX9_mayPass_20 rfl (by decide) (by omega) (fun c => absurd c (by omega)) (fun _ => ?_)
    refine g_aload_n (q := 24) dX9_mayPass_23 rfl rfl ?_
    refine g_iload_n (q := 25) dX9_mayPass_24 rfl rfl ?_
    refine g_iload_n (q := 26) dX9_mayPass_25 rfl rfl ?_
    refine g_iload_n (q := 27) dX9_mayPass_26 rfl rfl ?_
    refine gb_callV (q := 30) (j := 0) (i := 0) dX9_mayPass_27 rfl kv_X9_223 (c_mpasses (I := va_up I 0 (nI 0)) (A := A) (tb := tb) ha hb ht (hB.1.at (j := 0) rfl)) rfl (by decide) hB rfl rfl rfl rfl (bz_le rfl) (by decide) (by decide) (fun r g1 hQ => ?_)
    obtain ⟨rfl, hg⟩ := hQ
    have hg := hg.symm
    subst hg
    refine g_eqi (v := nI (1)) (by rw [hp]; rfl) ?_
    refine g_ifN_eq (q := 33) (t := 37) dX9_mayPass_30 rfl (by decide) (by omega) (fun c => absurd c (by omega)) (fun _ => ?_)
    refine g_iconst (q := 34) (v := (nI 1)) dX9_mayPass_33 rfl (by decide) ?_
    refine g_goto (q := 38) dX9_mayPass_34 (by decide) ?_
    exact g_zret dX9_mayPass_38 rfl rfl ⟨rfl, hB⟩
  | false =>
    refine g_aload_n (q := 1) dX9_mayPass_0 rfl rfl ?_
    refine g_iconst (q := 2) (v := (nI 0)) dX9_mayPass_1 rfl (by decide) ?_
    refine gb_putf (q := 5) (j := 0) (i := 0) dX9_mayPass_2 rfl fp_X9_70 hB rfl rfl rfl (bz_le rfl) rfl rfl (fun g hB => ?_)
    refine g_aload_n (q := 6) dX9_mayPass_5 rfl rfl ?_
    refine g_iload_n (q := 7) dX9_mayPass_6 rfl rfl ?_
    refine g_iconst (q := 8) (v := (nI 4)) dX9_mayPass_7 rfl (by decide) ?_
    refine gb_callV (q := 11) (j := 0) (i := 0) dX9_mayPass_8 rfl kv_X9_220 (c_mno0 (I := va_up I 0 (nI 0)) (A := A) ha (by decide) rfl (hB.1.at (j := 0) rfl)) rfl (by decide) hB rfl rfl rfl rfl (bz_le rfl) (by decide) (by decide) (fun r g1 hQ => ?_)
    obtain ⟨rfl, hg⟩ := hQ
    have hg := hg.symm
    subst hg
    refine g_ifN_ne (q := 14) (t := 37) dX9_mayPass_11 rfl (by decide) (by omega) (fun c => absurd c (by omega)) (fun _ => ?_)
    refine g_aload_n (q := 15) dX9_mayPass_14 rfl rfl ?_
    refine g_iload_n (q := 16) dX9_mayPass_15 rfl rfl ?_
    refine g_iconst (q := 17) (v := (nI 4)) dX9_mayPass_16 rfl (by decide) ?_
    refine gb_callV (q := 20) (j := 0) (i := 0) dX9_mayPass_17 rfl kv_X9_220 (c_mno0 (I := va_up I 0 (nI 0)) (A := A) hb (by decide) rfl (hB.1.at (j := 0) rfl)) rfl (by decide) hB rfl rfl rfl rfl (bz_le rfl) (by decide) (by decide) (fun r g1 hQ => ?_)
    obtain ⟨rfl, hg⟩ := hQ
    have hg := hg.symm
    subst hg
    refine g_ifN_ne (q := 23) (t := 37) dX9_mayPass_20 rfl (by decide) (by omega) (fun c => absurd c (by omega)) (fun _ => ?_)
    refine g_aload_n (q := 24) dX9_mayPass_23 rfl rfl ?_
    refine g_iload_n (q := 25) dX9_mayPass_24 rfl rfl ?_
    refine g_iload_n (q := 26) dX9_mayPass_25 rfl rfl ?_
    refine g_iload_n (q := 27) dX9_mayPass_26 rfl rfl ?_
    refine gb_callV (q := 30) (j := 0) (i := 0) dX9_mayPass_27 rfl kv_X9_223 (c_mpasses (I := va_up I 0 (nI 0)) (A := A) (tb := tb) ha hb ht (hB.1.at (j := 0) rfl)) rfl (by decide) hB rfl rfl rfl rfl (bz_le rfl) (by decide) (by decide) (fun r g1 hQ => ?_)
    obtain ⟨rfl, hg⟩ := hQ
    have hg := hg.symm
    subst hg
    refine g_eqi (v := nI (0)) (by rw [hp]; rfl) ?_
    refine g_ifN_eq (q := 33) (t := 37) dX9_mayPass_30 rfl (by decide) (by omega) (fun _ => ?_) (fun c => absurd c (by omega))
    refine g_iconst (q := 38) (v := (nI 0)) dX9_mayPass_37 rfl (by decide) ?_
    exact g_zret dX9_mayPass_38 rfl rfl ⟨rfl, hB⟩
def m_safe (tb cr : Nat → Nat) : Bool := decide (tb 1 = 1 ∧ tb 2 = 1 ∧ 0 < cr 0 ∧ 0 < cr 4 ∧ tb 13 = 1 ∧ tb 14 = 1 ∧ 0 < cr 3 ∧ 0 < cr 7)
set_option maxRecDepth 20000 in
set_option maxHeartbeats 1000000 in
theorem c_misSafe {l : Launch} {E : bz_E} {L : List Nat} {g : Nat → va_E} {o : Nat} {I : Nat → Int32} {A : Nat → Nat → Int32} {tb cr : Nat → Nat} (ht : ∀ i, i < 16 → A 4 i = nI (tb i) ∧ tb i ≤ 1) (hc : ∀ i, i < 8 → A 3 i = nI (cr i) ∧ cr i ≤ 8) (hH : bz_H L g o (b_Mod E o I A)) : bz_K l E mX9_isSafe 0 [.ref o] L g (fun r g1 => r = some (.int (tB (m_safe tb cr))) ∧ bz_B L g g1 [(o, b_Mod E o (va_up I 0 (nI 0)) A)]) := by
  refine bz_K.of (by decide) (bz_le rfl) (fun sz => ?_)
  show bz_G _ _ _ _ _ _ _ _ _ _ _ _ 0 [(0, .ref o)] []
  have hB := bz_B.rf (bz_W.one hH)
  have Z1 : ∀ g1 : Nat → va_E, (tb 1 = 1 ∧ tb 2 = 1 ∧ 0 < cr 0 ∧ 0 < cr 4 ∧ tb 13 = 1 ∧ tb 14 = 1 ∧ 0 < cr 3 ∧ 0 < cr 7) → bz_B L g g1 [(o, b_Mod E o (va_up I 0 (nI 0)) A)] → bz_G l E mX9_isSafe (bz_R 0 0 0) L sz (bz_Fm E L sz (fun r g1 => r = some (.int (tB (m_safe tb cr))) ∧ bz_B L g g1 [(o, b_Mod E o (va_up I 0 (nI 0)) A)])) sz 0 0 L g1 9 [(2, .int (nI 6)), (1, .int (nI 1)), (0, .ref o)] [] := by
    intro g2 hc1 hB
    refine g_iload_n (q := 10) dX9_isSafe_9 rfl rfl ?_
    refine g_iconst (q := 11) (v := (nI 4)) dX9_isSafe_10 rfl (by decide) ?_
    refine g_icmpN_ge (q := 14) (t := 78) dX9_isSafe_11 rfl (by decide) (by omega) (by omega) (fun _ => ?_) (fun c => absurd c (by omega))
    refine g_iload_n (q := 79) dX9_isSafe_78 rfl rfl ?_
    exact g_zret dX9_isSafe_79 rfl rfl ⟨congrArg (fun z => some (Value.int z)) (tB_t (decide_eq_true hc1)), hB⟩
  have Z0 : ∀ g1 : Nat → va_E, ¬ (tb 1 = 1 ∧ tb 2 = 1 ∧ 0 < cr 0 ∧ 0 < cr 4 ∧ tb 13 = 1 ∧ tb 14 = 1 ∧ 0 < cr 3 ∧ 0 < cr 7) → bz_B L g g1 [(o, b_Mod E o (va_up I 0 (nI 0)) A)] → bz_G l E mX9_isSafe (bz_R 0 0 0) L sz (bz_Fm E L sz (fun r g1 => r = some (.int (tB (m_safe tb cr))) ∧ bz_B L g g1 [(o, b_Mod E o (va_up I 0 (nI 0)) A)])) sz 0 0 L g1 9 [(2, .int (nI 6)), (1, .int (nI 0)), (0, .ref o)] [] := by
    intro g2 hc1 hB
    refine g_iload_n (q := 10) dX9_isSafe_9 rfl rfl ?_
    refine g_iconst (q := 11) (v := (nI 4)) dX9_isSafe_10 rfl (by decide) ?_
    refine g_icmpN_ge (q := 14) (t := 78) dX9_isSafe_11 rfl (by decide) (by omega) (by omega) (fun _ => ?_) (fun c => absurd c (by omega))
    refine g_iload_n (q := 79) dX9_isSafe_78 rfl rfl ?_
    exact g_zret dX9_isSafe_79 rfl rfl ⟨congrArg (fun z => some (Value.int z)) (tB_f (decide_eq_false hc1)), hB⟩
  have Y1 : ∀ g1 : Nat → va_E, (tb 1 = 1 ∧ tb 2 = 1 ∧ 0 < cr 0 ∧ 0 < cr 4) → bz_B L g g1 [(o, b_Mod E o (va_up I 0 (nI 0)) A)] → bz_G l E mX9_isSafe (bz_R 0 0 0) L sz (bz_Fm E L sz (fun r g1 => r = some (.int (tB (m_safe tb cr))) ∧ bz_B L g g1 [(o, b_Mod E o (va_up I 0 (nI 0)) A)])) sz 0 0 L g1 9 [(2, .int (nI 3)), (1, .int (nI 1)), (0, .ref o)] [] := by
    intro g2 hc1 hB
    refine g_iload_n (q := 10) dX9_isSafe_9 rfl rfl ?_
    refine g_iconst (q := 11) (v := (nI 4)) dX9_isSafe_10 rfl (by decide) ?_
    refine g_icmpN_ge (q := 14) (t := 78) dX9_isSafe_11 rfl (by decide) (by omega) (by omega) (fun c => absurd c (by omega)) (fun _ => ?_)
    refine g_iload_n (q := 15) dX9_isSafe_14 rfl rfl ?_
    refine g_ifN_eq (q := 18) (t := 70) dX9_isSafe_15 rfl (by decide) (by omega) (fun c => absurd c (by omega)) (fun _ => ?_)
    refine g_aload_n (q := 19) dX9_isSafe_18 rfl rfl ?_
    refine gb_getf (q := 22) (j := 0) (i := 0) dX9_isSafe_19 rfl fl_X9_19 hB rfl rfl rfl rfl ?_
    refine g_iconst (q := 23) (v := (nI 4)) dX9_isSafe_22 rfl (by decide) ?_
    refine g_iload_n (q := 24) dX9_isSafe_23 rfl rfl ?_
    refine g_imulN (q := 25) dX9_isSafe_24 rfl ?_
    refine g_iconst (q := 26) (v := (nI 1)) dX9_isSafe_25 rfl (by decide) ?_
    refine g_iaddN (q := 27) dX9_isSafe_26 rfl ?_
    refine gb_ialdN (q := 28) (j := 0) (i := 4) dX9_isSafe_27 rfl hB rfl rfl rfl (by omega) (by decide) ?_
    refine g_eqi (v := nI (tb 13)) ((ht 13 (by omega)).1) ?_
    refine g_iconst (q := 29) (v := (nI 1)) dX9_isSafe_28 rfl (by decide) ?_
    refine g_icmpN_ne (q := 32) (t := 70) dX9_isSafe_29 rfl (by decide) (by have := (ht 13 (by omega)).2; omega) (by omega) (fun c_29 => ?_) (fun c_29 => ?_)
    · refine g_iconst (q := 71) (v := (nI 0)) dX9_isSafe_70 rfl (by decide) ?_
      refine g_istore_n (q := 72) rfl dX9_isSafe_71 rfl (by decide) rfl ?_
      refine g_iincN (q := 75) (c := 3) dX9_isSafe_72 rfl (by decide) rfl rfl (by decide) ?_
      refine g_goto (q := 9) dX9_isSafe_75 (by decide) ?_
      first
        | (refine g_lvs (lv1 := [(2, .int (nI 6)), (1, .int (nI 1)), (0, .ref o)]) ⟨rfl, rfl, rfl, trivial⟩ ?_; exact Z1 _ (by omega) hB)
        | (refine g_lvs (lv1 := [(2, .int (nI 6)), (1, .int (nI 0)), (0, .ref o)]) ⟨rfl, rfl, rfl, trivial⟩ ?_; exact Z0 _ (by omega) hB)
    · refine g_aload_n (q := 33) dX9_isSafe_32 rfl rfl ?_
      refine gb_getf (q := 36) (j := 0) (i := 0) dX9_isSafe_33 rfl fl_X9_19 hB rfl rfl rfl rfl ?_
      refine g_iconst (q := 37) (v := (nI 4)) dX9_isSafe_36 rfl (by decide) ?_
      refine g_iload_n (q := 38) dX9_isSafe_37 rfl rfl ?_
      refine g_imulN (q := 39) dX9_isSafe_38 rfl ?_
      refine g_iconst (q := 40) (v := (nI 2)) dX9_isSafe_39 rfl (by decide) ?_
      refine g_iaddN (q := 41) dX9_isSafe_40 rfl ?_
      refine gb_ialdN (q := 42) (j := 0) (i := 4) dX9_isSafe_41 rfl hB rfl rfl rfl (by omega) (by decide) ?_
      refine g_eqi (v := nI (tb 14)) ((ht 14 (by omega)).1) ?_
      refine g_iconst (q := 43) (v := (nI 1)) dX9_isSafe_42 rfl (by decide) ?_
      refine g_icmpN_ne (q := 46) (t := 70) dX9_isSafe_43 rfl (by decide) (by have := (ht 14 (by omega)).2; omega) (by omega) (fun c_43 => ?_) (fun c_43 => ?_)
      · refine g_iconst (q := 71) (v := (nI 0)) dX9_isSafe_70 rfl (by decide) ?_
        refine g_istore_n (q := 72) rfl dX9_isSafe_71 rfl (by decide) rfl ?_
        refine g_iincN (q := 75) (c := 3) dX9_isSafe_72 rfl (by decide) rfl rfl (by decide) ?_
        refine g_goto (q := 9) dX9_isSafe_75 (by decide) ?_
        first
          | (refine g_lvs (lv1 := [(2, .int (nI 6)), (1, .int (nI 1)), (0, .ref o)]) ⟨rfl, rfl, rfl, trivial⟩ ?_; exact Z1 _ (by omega) hB)
          | (refine g_lvs (lv1 := [(2, .int (nI 6)), (1, .int (nI 0)), (0, .ref o)]) ⟨rfl, rfl, rfl, trivial⟩ ?_; exact Z0 _ (by omega) hB)
      · refine g_aload_n (q := 47) dX9_isSafe_46 rfl rfl ?_
        refine gb_getf (q := 50) (j := 0) (i := 0) dX9_isSafe_47 rfl fl_X9_16 hB rfl rfl rfl rfl ?_
        refine g_iload_n (q := 51) dX9_isSafe_50 rfl rfl ?_
        refine gb_ialdN (q := 52) (j := 0) (i := 3) dX9_isSafe_51 rfl hB rfl rfl rfl (by omega) (by decide) ?_
        refine g_eqi (v := nI (cr 3)) ((hc 3 (by omega)).1) ?_
        refine g_ifN_le (q := 55) (t := 70) dX9_isSafe_52 rfl (by decide) (by have := (hc 3 (by omega)).2; omega) (fun c_52 => ?_) (fun c_52 => ?_)
        · refine g_iconst (q := 71) (v := (nI 0)) dX9_isSafe_70 rfl (by decide) ?_
          refine g_istore_n (q := 72) rfl dX9_isSafe_71 rfl (by decide) rfl ?_
          refine g_iincN (q := 75) (c := 3) dX9_isSafe_72 rfl (by decide) rfl rfl (by decide) ?_
          refine g_goto (q := 9) dX9_isSafe_75 (by decide) ?_
          first
            | (refine g_lvs (lv1 := [(2, .int (nI 6)), (1, .int (nI 1)), (0, .ref o)]) ⟨rfl, rfl, rfl, trivial⟩ ?_; exact Z1 _ (by omega) hB)
            | (refine g_lvs (lv1 := [(2, .int (nI 6)), (1, .int (nI 0)), (0, .ref o)]) ⟨rfl, rfl, rfl, trivial⟩ ?_; exact Z0 _ (by omega) hB)
        · refine g_aload_n (q := 56) dX9_isSafe_55 rfl rfl ?_
          refine gb_getf (q := 59) (j := 0) (i := 0) dX9_isSafe_56 rfl fl_X9_16 hB rfl rfl rfl rfl ?_
          refine g_iconst (q := 60) (v := (nI 4)) dX9_isSafe_59 rfl (by decide) ?_
          refine g_iload_n (q := 61) dX9_isSafe_60 rfl rfl ?_
          refine g_iaddN (q := 62) dX9_isSafe_61 rfl ?_
          refine gb_ialdN (q := 63) (j := 0) (i := 3) dX9_isSafe_62 rfl hB rfl rfl rfl (by omega) (by decide) ?_
          refine g_eqi (v := nI (cr 7)) ((hc 7 (by omega)).1) ?_
          refine g_ifN_le (q := 66) (t := 70) dX9_isSafe_63 rfl (by decide) (by have := (hc 7 (by omega)).2; omega) (fun c_63 => ?_) (fun c_63 => ?_)
          · refine g_iconst (q := 71) (v := (nI 0)) dX9_isSafe_70 rfl (by decide) ?_
            refine g_istore_n (q := 72) rfl dX9_isSafe_71 rfl (by decide) rfl ?_
            refine g_iincN (q := 75) (c := 3) dX9_isSafe_72 rfl (by decide) rfl rfl (by decide) ?_
            refine g_goto (q := 9) dX9_isSafe_75 (by decide) ?_
            first
              | (refine g_lvs (lv1 := [(2, .int (nI 6)), (1, .int (nI 1)), (0, .ref o)]) ⟨rfl, rfl, rfl, trivial⟩ ?_; exact Z1 _ (by omega) hB)
              | (refine g_lvs (lv1 := [(2, .int (nI 6)), (1, .int (nI 0)), (0, .ref o)]) ⟨rfl, rfl, rfl, trivial⟩ ?_; exact Z0 _ (by omega) hB)
          · refine g_iconst (q := 67) (v := (nI 1)) dX9_isSafe_66 rfl (by decide) ?_
            refine g_goto (q := 71) dX9_isSafe_67 (by decide) ?_
            refine g_istore_n (q := 72) rfl dX9_isSafe_71 rfl (by decide) rfl ?_
            refine g_iincN (q := 75) (c := 3) dX9_isSafe_72 rfl (by decide) rfl rfl (by decide) ?_
            refine g_goto (q := 9) dX9_isSafe_75 (by decide) ?_
            first
              | (refine g_lvs (lv1 := [(2, .int (nI 6)), (1, .int (nI 1)), (0, .ref o)]) ⟨rfl, rfl, rfl, trivial⟩ ?_; exact Z1 _ (by omega) hB)
              | (refine g_lvs (lv1 := [(2, .int (nI 6)), (1, .int (nI 0)), (0, .ref o)]) ⟨rfl, rfl, rfl, trivial⟩ ?_; exact Z0 _ (by omega) hB)
  have Y0 : ∀ g1 : Nat → va_E, ¬ (tb 1 = 1 ∧ tb 2 = 1 ∧ 0 < cr 0 ∧ 0 < cr 4) → bz_B L g g1 [(o, b_Mod E o (va_up I 0 (nI 0)) A)] → bz_G l E mX9_isSafe (bz_R 0 0 0) L sz (bz_Fm E L sz (fun r g1 => r = some (.int (tB (m_safe tb cr))) ∧ bz_B L g g1 [(o, b_Mod E o (va_up I 0 (nI 0)) A)])) sz 0 0 L g1 9 [(2, .int (nI 3)), (1, .int (nI 0)), (0, .ref o)] [] := by
    intro g2 hc1 hB
    refine g_iload_n (q := 10) dX9_isSafe_9 rfl rfl ?_
    refine g_iconst (q := 11) (v := (nI 4)) dX9_isSafe_10 rfl (by decide) ?_
    refine g_icmpN_ge (q := 14) (t := 78) dX9_isSafe_11 rfl (by decide) (by omega) (by omega) (fun c => absurd c (by omega)) (fun _ => ?_)
    refine g_iload_n (q := 15) dX9_isSafe_14 rfl rfl ?_
    refine g_ifN_eq (q := 18) (t := 70) dX9_isSafe_15 rfl (by decide) (by omega) (fun _ => ?_) (fun c => absurd c (by omega))
    refine g_iconst (q := 71) (v := (nI 0)) dX9_isSafe_70 rfl (by decide) ?_
    refine g_istore_n (q := 72) rfl dX9_isSafe_71 rfl (by decide) rfl ?_
    refine g_iincN (q := 75) (c := 3) dX9_isSafe_72 rfl (by decide) rfl rfl (by decide) ?_
    refine g_goto (q := 9) dX9_isSafe_75 (by decide) ?_
    first
      | (refine g_lvs (lv1 := [(2, .int (nI 6)), (1, .int (nI 1)), (0, .ref o)]) ⟨rfl, rfl, rfl, trivial⟩ ?_; exact Z1 _ (by omega) hB)
      | (refine g_lvs (lv1 := [(2, .int (nI 6)), (1, .int (nI 0)), (0, .ref o)]) ⟨rfl, rfl, rfl, trivial⟩ ?_; exact Z0 _ (by omega) hB)
  have X1 : ∀ g1 : Nat → va_E, bz_B L g g1 [(o, b_Mod E o (va_up I 0 (nI 0)) A)] → bz_G l E mX9_isSafe (bz_R 0 0 0) L sz (bz_Fm E L sz (fun r g1 => r = some (.int (tB (m_safe tb cr))) ∧ bz_B L g g1 [(o, b_Mod E o (va_up I 0 (nI 0)) A)])) sz 0 0 L g1 9 [(2, .int (nI 0)), (1, .int (nI 1)), (0, .ref o)] [] := by
    intro g2 hB
    refine g_iload_n (q := 10) dX9_isSafe_9 rfl rfl ?_
    refine g_iconst (q := 11) (v := (nI 4)) dX9_isSafe_10 rfl (by decide) ?_
    refine g_icmpN_ge (q := 14) (t := 78) dX9_isSafe_11 rfl (by decide) (by omega) (by omega) (fun c => absurd c (by omega)) (fun _ => ?_)
    refine g_iload_n (q := 15) dX9_isSafe_14 rfl rfl ?_
    refine g_ifN_eq (q := 18) (t := 70) dX9_isSafe_15 rfl (by decide) (by omega) (fun c => absurd c (by omega)) (fun _ => ?_)
    refine g_aload_n (q := 19) dX9_isSafe_18 rfl rfl ?_
    refine gb_getf (q := 22) (j := 0) (i := 0) dX9_isSafe_19 rfl fl_X9_19 hB rfl rfl rfl rfl ?_
    refine g_iconst (q := 23) (v := (nI 4)) dX9_isSafe_22 rfl (by decide) ?_
    refine g_iload_n (q := 24) dX9_isSafe_23 rfl rfl ?_
    refine g_imulN (q := 25) dX9_isSafe_24 rfl ?_
    refine g_iconst (q := 26) (v := (nI 1)) dX9_isSafe_25 rfl (by decide) ?_
    refine g_iaddN (q := 27) dX9_isSafe_26 rfl ?_
    refine gb_ialdN (q := 28) (j := 0) (i := 4) dX9_isSafe_27 rfl hB rfl rfl rfl (by omega) (by decide) ?_
    refine g_eqi (v := nI (tb 1)) ((ht 1 (by omega)).1) ?_
    refine g_iconst (q := 29) (v := (nI 1)) dX9_isSafe_28 rfl (by decide) ?_
    refine g_icmpN_ne (q := 32) (t := 70) dX9_isSafe_29 rfl (by decide) (by have := (ht 1 (by omega)).2; omega) (by omega) (fun c_29 => ?_) (fun c_29 => ?_)
    · refine g_iconst (q := 71) (v := (nI 0)) dX9_isSafe_70 rfl (by decide) ?_
      refine g_istore_n (q := 72) rfl dX9_isSafe_71 rfl (by decide) rfl ?_
      refine g_iincN (q := 75) (c := 3) dX9_isSafe_72 rfl (by decide) rfl rfl (by decide) ?_
      refine g_goto (q := 9) dX9_isSafe_75 (by decide) ?_
      first
        | (refine g_lvs (lv1 := [(2, .int (nI 3)), (1, .int (nI 1)), (0, .ref o)]) ⟨rfl, rfl, rfl, trivial⟩ ?_; exact Y1 _ (by omega) hB)
        | (refine g_lvs (lv1 := [(2, .int (nI 3)), (1, .int (nI 0)), (0, .ref o)]) ⟨rfl, rfl, rfl, trivial⟩ ?_; exact Y0 _ (by omega) hB)
    · refine g_aload_n (q := 33) dX9_isSafe_32 rfl rfl ?_
      refine gb_getf (q := 36) (j := 0) (i := 0) dX9_isSafe_33 rfl fl_X9_19 hB rfl rfl rfl rfl ?_
      refine g_iconst (q := 37) (v := (nI 4)) dX9_isSafe_36 rfl (by decide) ?_
      refine g_iload_n (q := 38) dX9_isSafe_37 rfl rfl ?_
      refine g_imulN (q := 39) dX9_isSafe_38 rfl ?_
      refine g_iconst (q := 40) (v := (nI 2)) dX9_isSafe_39 rfl (by decide) ?_
      refine g_iaddN (q := 41) dX9_isSafe_40 rfl ?_
      refine gb_ialdN (q := 42) (j := 0) (i := 4) dX9_isSafe_41 rfl hB rfl rfl rfl (by omega) (by decide) ?_
      refine g_eqi (v := nI (tb 2)) ((ht 2 (by omega)).1) ?_
      refine g_iconst (q := 43) (v := (nI 1)) dX9_isSafe_42 rfl (by decide) ?_
      refine g_icmpN_ne (q := 46) (t := 70) dX9_isSafe_43 rfl (by decide) (by have := (ht 2 (by omega)).2; omega) (by omega) (fun c_43 => ?_) (fun c_43 => ?_)
      · refine g_iconst (q := 71) (v := (nI 0)) dX9_isSafe_70 rfl (by decide) ?_
        refine g_istore_n (q := 72) rfl dX9_isSafe_71 rfl (by decide) rfl ?_
        refine g_iincN (q := 75) (c := 3) dX9_isSafe_72 rfl (by decide) rfl rfl (by decide) ?_
        refine g_goto (q := 9) dX9_isSafe_75 (by decide) ?_
        first
          | (refine g_lvs (lv1 := [(2, .int (nI 3)), (1, .int (nI 1)), (0, .ref o)]) ⟨rfl, rfl, rfl, trivial⟩ ?_; exact Y1 _ (by omega) hB)
          | (refine g_lvs (lv1 := [(2, .int (nI 3)), (1, .int (nI 0)), (0, .ref o)]) ⟨rfl, rfl, rfl, trivial⟩ ?_; exact Y0 _ (by omega) hB)
      · refine g_aload_n (q := 47) dX9_isSafe_46 rfl rfl ?_
        refine gb_getf (q := 50) (j := 0) (i := 0) dX9_isSafe_47 rfl fl_X9_16 hB rfl rfl rfl rfl ?_
        refine g_iload_n (q := 51) dX9_isSafe_50 rfl rfl ?_
        refine gb_ialdN (q := 52) (j := 0) (i := 3) dX9_isSafe_51 rfl hB rfl rfl rfl (by omega) (by decide) ?_
        refine g_eqi (v := nI (cr 0)) ((hc 0 (by omega)).1) ?_
        refine g_ifN_le (q := 55) (t := 70) dX9_isSafe_52 rfl (by decide) (by have := (hc 0 (by omega)).2; omega) (fun c_52 => ?_) (fun c_52 => ?_)
        · refine g_iconst (q := 71) (v := (nI 0)) dX9_isSafe_70 rfl (by decide) ?_
          refine g_istore_n (q := 72) rfl dX9_isSafe_71 rfl (by decide) rfl ?_
          refine g_iincN (q := 75) (c := 3) dX9_isSafe_72 rfl (by decide) rfl rfl (by decide) ?_
          refine g_goto (q := 9) dX9_isSafe_75 (by decide) ?_
          first
            | (refine g_lvs (lv1 := [(2, .int (nI 3)), (1, .int (nI 1)), (0, .ref o)]) ⟨rfl, rfl, rfl, trivial⟩ ?_; exact Y1 _ (by omega) hB)
            | (refine g_lvs (lv1 := [(2, .int (nI 3)), (1, .int (nI 0)), (0, .ref o)]) ⟨rfl, rfl, rfl, trivial⟩ ?_; exact Y0 _ (by omega) hB)
        · refine g_aload_n (q := 56) dX9_isSafe_55 rfl rfl ?_
          refine gb_getf (q := 59) (j := 0) (i := 0) dX9_isSafe_56 rfl fl_X9_16 hB rfl rfl rfl rfl ?_
          refine g_iconst (q := 60) (v := (nI 4)) dX9_isSafe_59 rfl (by decide) ?_
          refine g_iload_n (q := 61) dX9_isSafe_60 rfl rfl ?_
          refine g_iaddN (q := 62) dX9_isSafe_61 rfl ?_
          refine gb_ialdN (q := 63) (j := 0) (i := 3) dX9_isSafe_62 rfl hB rfl rfl rfl (by omega) (by decide) ?_
          refine g_eqi (v := nI (cr 4)) ((hc 4 (by omega)).1) ?_
          refine g_ifN_le (q := 66) (t := 70) dX9_isSafe_63 rfl (by decide) (by have := (hc 4 (by omega)).2; omega) (fun c_63 => ?_) (fun c_63 => ?_)
          · refine g_iconst (q := 71) (v := (nI 0)) dX9_isSafe_70 rfl (by decide) ?_
            refine g_istore_n (q := 72) rfl dX9_isSafe_71 rfl (by decide) rfl ?_
            refine g_iincN (q := 75) (c := 3) dX9_isSafe_72 rfl (by decide) rfl rfl (by decide) ?_
            refine g_goto (q := 9) dX9_isSafe_75 (by decide) ?_
            first
              | (refine g_lvs (lv1 := [(2, .int (nI 3)), (1, .int (nI 1)), (0, .ref o)]) ⟨rfl, rfl, rfl, trivial⟩ ?_; exact Y1 _ (by omega) hB)
              | (refine g_lvs (lv1 := [(2, .int (nI 3)), (1, .int (nI 0)), (0, .ref o)]) ⟨rfl, rfl, rfl, trivial⟩ ?_; exact Y0 _ (by omega) hB)
          · refine g_iconst (q := 67) (v := (nI 1)) dX9_isSafe_66 rfl (by decide) ?_
            refine g_goto (q := 71) dX9_isSafe_67 (by decide) ?_
            refine g_istore_n (q := 72) rfl dX9_isSafe_71 rfl (by decide) rfl ?_
            refine g_iincN (q := 75) (c := 3) dX9_isSafe_72 rfl (by decide) rfl rfl (by decide) ?_
            refine g_goto (q := 9) dX9_isSafe_75 (by decide) ?_
            first
              | (refine g_lvs (lv1 := [(2, .int (nI 3)), (1, .int (nI 1)), (0, .ref o)]) ⟨rfl, rfl, rfl, trivial⟩ ?_; exact Y1 _ (by omega) hB)
              | (refine g_lvs (lv1 := [(2, .int (nI 3)), (1, .int (nI 0)), (0, .ref o)]) ⟨rfl, rfl, rfl, trivial⟩ ?_; exact Y0 _ (by omega) hB)
  refine g_aload_n (q := 1) dX9_isSafe_0 rfl rfl ?_
  refine g_iconst (q := 2) (v := (nI 0)) dX9_isSafe_1 rfl (by decide) ?_
  refine gb_putf (q := 5) (j := 0) (i := 0) dX9_isSafe_2 rfl fp_X9_70 hB rfl rfl rfl (bz_le rfl) rfl rfl (fun g hB => ?_)
  refine g_iconst (q := 6) (v := (nI 1)) dX9_isSafe_5 rfl (by decide) ?_
  refine g_istore_n (q := 7) rfl dX9_isSafe_6 rfl (by decide) rfl ?_
  refine g_iconst (q := 8) (v := (nI 0)) dX9_isSafe_7 rfl (by decide) ?_
  refine g_istore_n (q := 9) rfl dX9_isSafe_8 rfl (by decide) rfl ?_
  refine g_lvs (lv1 := [(2, .int (nI 0)), (1, .int (nI 1)), (0, .ref o)]) ⟨rfl, rfl, rfl, trivial⟩ ?_
  exact X1 _ hB
set_option maxRecDepth 20000 in
set_option maxHeartbeats 1000000 in
theorem c_mdata3 {l : Launch} {E : bz_E} {L : List Nat} {g : Nat → va_E} {o : Nat} {I : Nat → Int32} {A : Nat → Nat → Int32} {v w z : Int32} (hb : m_bad v 2 = true) (hH : bz_H L g o (b_Mod E o I A)) : bz_K l E mX9_data 4 [.ref o, .int v, .int w, .int z] L g (fun r g1 => r = some (.int (nI 0)) ∧ bz_B L g g1 [(o, b_Mod E o (va_up I 0 (nI 1)) A)]) := by
  refine bz_K.of (by decide) (bz_le rfl) (fun sz => ?_)
  have hB := bz_B.rf (bz_W.one hH)
  show bz_G _ _ _ _ _ _ _ _ _ _ _ _ 0 [(0, .ref o), (1, .int v), (2, .int w), (3, .int z)] []
  refine g_aload_n (q := 1) dX9_data_0 rfl rfl ?_
  refine g_iload_n (q := 2) dX9_data_1 rfl rfl ?_
  refine g_iload_n (q := 3) dX9_data_2 rfl rfl ?_
  refine gb_callV (q := 6) (j := 0) (i := 0) dX9_data_3 rfl kv_X9_249 (c_mnoTag2 hb (hB.1.at (j := 0) rfl)) rfl (by decide) hB rfl rfl rfl rfl (bz_le rfl) (by decide) (by decide) (fun r g1 hQ => ?_)
  obtain ⟨rfl, h1⟩ := hQ
  have hB := hB.sp (j := 0) rfl 0 rfl h1 (bz_le rfl)
  refine g_ifN_ne (q := 9) (t := 50) dX9_data_6 rfl (by decide) (by omega) (fun _ => ?_) (fun c => absurd c (by omega))
  refine g_iconst (q := 51) (v := (nI 0)) dX9_data_50 rfl (by decide) ?_
  exact g_iret dX9_data_51 rfl (⟨rfl, hB⟩)
set_option maxRecDepth 20000 in
set_option maxHeartbeats 1000000 in
theorem c_mdata2 {l : Launch} {E : bz_E} {L : List Nat} {g : Nat → va_E} {o : Nat} {I : Nat → Int32} {A : Nat → Nat → Int32} {s m : Nat} {v z : Int32} (hs : s < 2) (hr : A 6 1 = nI m) (hb : m_bad v m = true) (hH : bz_H L g o (b_Mod E o I A)) : bz_K l E mX9_data 4 [.ref o, .int (nI s), .int v, .int z] L g (fun r g1 => r = some (.int (nI 0)) ∧ bz_B L g g1 [(o, b_Mod E o (va_up I 0 (nI 1)) A)]) := by
  refine bz_K.of (by decide) (bz_le rfl) (fun sz => ?_)
  have hB := bz_B.rf (bz_W.one hH)
  show bz_G _ _ _ _ _ _ _ _ _ _ _ _ 0 [(0, .ref o), (1, .int (nI s)), (2, .int v), (3, .int z)] []
  refine g_aload_n (q := 1) dX9_data_0 rfl rfl ?_
  refine g_iload_n (q := 2) dX9_data_1 rfl rfl ?_
  refine g_iload_n (q := 3) dX9_data_2 rfl rfl ?_
  refine gb_callV (q := 6) (j := 0) (i := 0) dX9_data_3 rfl kv_X9_249 (c_mnoTag1 hs hr hb (hB.1.at (j := 0) rfl)) rfl (by decide) hB rfl rfl rfl rfl (bz_le rfl) (by decide) (by decide) (fun r g1 hQ => ?_)
  obtain ⟨rfl, h1⟩ := hQ
  have hB := hB.sp (j := 0) rfl 0 rfl h1 (bz_le rfl)
  refine g_ifN_ne (q := 9) (t := 50) dX9_data_6 rfl (by decide) (by omega) (fun _ => ?_) (fun c => absurd c (by omega))
  refine g_iconst (q := 51) (v := (nI 0)) dX9_data_50 rfl (by decide) ?_
  exact g_iret dX9_data_51 rfl (⟨rfl, hB⟩)
set_option maxRecDepth 20000 in
set_option maxHeartbeats 1000000 in
theorem c_mdata1 {l : Launch} {E : bz_E} {L : List Nat} {g : Nat → va_E} {o : Nat} {I : Nat → Int32} {A : Nat → Nat → Int32} {s m k : Nat} {z : Int32} (hs : s < 2) (hr : A 6 1 = nI m) (hk : k < m) (hm : m < 2 ^ 31) (hm8 : m ≤ 8) (hb : m_bad z 4 = true) (hH : bz_H L g o (b_Mod E o I A)) : bz_K l E mX9_data 4 [.ref o, .int (nI s), .int (nI k), .int z] L g (fun r g1 => r = some (.int (nI 0)) ∧ bz_B L g g1 [(o, b_Mod E o (va_up I 0 (nI 2)) A)]) := by
  refine bz_K.of (by decide) (bz_le rfl) (fun sz => ?_)
  have hB := bz_B.rf (bz_W.one hH)
  show bz_G _ _ _ _ _ _ _ _ _ _ _ _ 0 [(0, .ref o), (1, .int (nI s)), (2, .int (nI k)), (3, .int z)] []
  refine g_aload_n (q := 1) dX9_data_0 rfl rfl ?_
  refine g_iload_n (q := 2) dX9_data_1 rfl rfl ?_
  refine g_iload_n (q := 3) dX9_data_2 rfl rfl ?_
  refine gb_callV (q := 6) (j := 0) (i := 0) dX9_data_3 rfl kv_X9_249 (c_mnoTag0 hs hr hk hm (hB.1.at (j := 0) rfl)) rfl (by decide) hB rfl rfl rfl rfl (bz_le rfl) (by decide) (by decide) (fun r g1 hQ => ?_)
  obtain ⟨rfl, h1⟩ := hQ
  have hB := hB.sp (j := 0) rfl 0 rfl h1 (bz_le rfl)
  refine g_ifN_ne (q := 9) (t := 50) dX9_data_6 rfl (by decide) (by omega) (fun c => absurd c (by omega)) (fun _ => ?_)
  refine g_aload_n (q := 10) dX9_data_9 rfl rfl ?_
  refine g_iload_n (q := 11) dX9_data_10 rfl rfl ?_
  refine g_iconst (q := 12) (v := (nI 0)) dX9_data_11 rfl (by decide) ?_
  refine g_iconst (q := 13) (v := (nI 3)) dX9_data_12 rfl (by decide) ?_
  refine g_callS (q := 16) dX9_data_13 rfl ks_X9_114 rfl (c_mwithin) (by decide) rfl (bz_le rfl) (by decide) (by decide) (fun r g1 hQ => ?_)
  obtain ⟨rfl, hg⟩ := hQ
  have hg := hg.symm
  subst hg
  refine g_eqi (v := nI (0)) (m_bad1 (m := 4) hb) ?_
  refine g_ifN_eq (q := 19) (t := 38) dX9_data_16 rfl (by decide) (by omega) (fun _ => ?_) (fun c => absurd c (by omega))
  refine g_iconst (q := 39) (v := (nI 1)) dX9_data_38 rfl (by decide) ?_
  refine g_goto (q := 43) dX9_data_39 (by decide) ?_
  refine g_iconst (q := 44) (v := (nI 2)) dX9_data_43 rfl (by decide) ?_
  refine gb_callV (q := 47) (j := 0) (i := 0) dX9_data_44 rfl kv_X9_210 (c_mthrowsIf1 (I := va_up I 0 (nI 0)) (A := A) (k := 2) rfl (by decide) (hB.1.at (j := 0) rfl)) rfl (by decide) hB rfl rfl rfl rfl (bz_le rfl) (by decide) (by decide) (fun r g1 hQ => ?_)
  obtain ⟨rfl, h1⟩ := hQ
  have hB := hB.sp (j := 0) rfl 0 rfl h1 (bz_le rfl)
  refine g_ifN_eq (q := 50) (t := 52) dX9_data_47 rfl (by decide) (by omega) (fun c => absurd c (by omega)) (fun _ => ?_)
  refine g_iconst (q := 51) (v := (nI 0)) dX9_data_50 rfl (by decide) ?_
  exact g_iret dX9_data_51 rfl (⟨rfl, hB⟩)
set_option maxRecDepth 20000 in
set_option maxHeartbeats 1000000 in
theorem c_mdata4 {l : Launch} {E : bz_E} {L : List Nat} {g : Nat → va_E} {o : Nat} {I : Nat → Int32} {A : Nat → Nat → Int32} {s m k b i : Nat} (hs : s < 2) (hr : A 6 1 = nI m) (hk : k < m) (hm : m < 2 ^ 31) (hm8 : m ≤ 8) (hcb : A 1 (43 + 7 * (8 * s + k) + 2) = nI b) (hb16 : b < 16) (hi : i < 4) (ht : b.testBit i = false) (hH : bz_H L g o (b_Mod E o I A)) : bz_K l E mX9_data 4 [.ref o, .int (nI s), .int (nI k), .int (nI i)] L g (fun r g1 => r = some (.int (nI 0)) ∧ bz_B L g g1 [(o, b_Mod E o (va_up I 0 (nI 2)) A)]) := by
  refine bz_K.of (by decide) (bz_le rfl) (fun sz => ?_)
  have hB := bz_B.rf (bz_W.one hH)
  show bz_G _ _ _ _ _ _ _ _ _ _ _ _ 0 [(0, .ref o), (1, .int (nI s)), (2, .int (nI k)), (3, .int (nI i))] []
  refine g_aload_n (q := 1) dX9_data_0 rfl rfl ?_
  refine g_iload_n (q := 2) dX9_data_1 rfl rfl ?_
  refine g_iload_n (q := 3) dX9_data_2 rfl rfl ?_
  refine gb_callV (q := 6) (j := 0) (i := 0) dX9_data_3 rfl kv_X9_249 (c_mnoTag0 hs hr hk hm (hB.1.at (j := 0) rfl)) rfl (by decide) hB rfl rfl rfl rfl (bz_le rfl) (by decide) (by decide) (fun r g1 hQ => ?_)
  obtain ⟨rfl, h1⟩ := hQ
  have hB := hB.sp (j := 0) rfl 0 rfl h1 (bz_le rfl)
  refine g_ifN_ne (q := 9) (t := 50) dX9_data_6 rfl (by decide) (by omega) (fun c => absurd c (by omega)) (fun _ => ?_)
  refine g_aload_n (q := 10) dX9_data_9 rfl rfl ?_
  refine g_iload_n (q := 11) dX9_data_10 rfl rfl ?_
  refine g_iconst (q := 12) (v := (nI 0)) dX9_data_11 rfl (by decide) ?_
  refine g_iconst (q := 13) (v := (nI 3)) dX9_data_12 rfl (by decide) ?_
  refine g_callS (q := 16) dX9_data_13 rfl ks_X9_114 rfl (c_mwithin) (by decide) rfl (bz_le rfl) (by decide) (by decide) (fun r g1 hQ => ?_)
  obtain ⟨rfl, hg⟩ := hQ
  have hg := hg.symm
  subst hg
  refine g_eqi (v := nI (1)) (m_bad0 (m := 4) hi (by decide)) ?_
  refine g_ifN_eq (q := 19) (t := 38) dX9_data_16 rfl (by decide) (by omega) (fun c => absurd c (by omega)) (fun _ => ?_)
  refine g_aload_n (q := 20) dX9_data_19 rfl rfl ?_
  refine gb_getf (q := 23) (j := 0) (i := 0) dX9_data_20 rfl fl_X9_7 hB rfl rfl rfl rfl ?_
  refine g_iload_n (q := 24) dX9_data_23 rfl rfl ?_
  refine g_iload_n (q := 25) dX9_data_24 rfl rfl ?_
  refine g_callS (q := 28) dX9_data_25 rfl ks_X9_252 rfl (c_tagged (s := s) (k := k)) (by decide) rfl (bz_le rfl) (by decide) (by decide) (fun r g1 hQ => ?_)
  obtain ⟨rfl, hg⟩ := hQ
  have hg := hg.symm
  subst hg
  refine g_iconst (q := 29) (v := (nI 2)) dX9_data_28 rfl (by decide) ?_
  refine g_iaddN (q := 30) dX9_data_29 rfl ?_
  refine gb_ialdN (q := 31) (j := 0) (i := 1) dX9_data_30 rfl hB rfl rfl rfl (by omega) (by decide) ?_
  refine g_eqi (v := nI (b)) (hcb) ?_
  refine g_iload_n (q := 32) dX9_data_31 rfl rfl ?_
  refine g_callS (q := 35) dX9_data_32 rfl ks_X9_148 rfl (c_mhas) (by decide) rfl (bz_le rfl) (by decide) (by decide) (fun r g1 hQ => ?_)
  obtain ⟨rfl, hg⟩ := hQ
  have hg := hg.symm
  subst hg
  refine g_eqi (v := nI (0)) ((m_hasb b hb16 i hi).trans (by rw [ht]; rfl)) ?_
  refine g_ifN_ne (q := 38) (t := 42) dX9_data_35 rfl (by decide) (by omega) (fun c => absurd c (by omega)) (fun _ => ?_)
  refine g_iconst (q := 39) (v := (nI 1)) dX9_data_38 rfl (by decide) ?_
  refine g_goto (q := 43) dX9_data_39 (by decide) ?_
  refine g_iconst (q := 44) (v := (nI 2)) dX9_data_43 rfl (by decide) ?_
  refine gb_callV (q := 47) (j := 0) (i := 0) dX9_data_44 rfl kv_X9_210 (c_mthrowsIf1 (I := va_up I 0 (nI 0)) (A := A) (k := 2) rfl (by decide) (hB.1.at (j := 0) rfl)) rfl (by decide) hB rfl rfl rfl rfl (bz_le rfl) (by decide) (by decide) (fun r g1 hQ => ?_)
  obtain ⟨rfl, h1⟩ := hQ
  have hB := hB.sp (j := 0) rfl 0 rfl h1 (bz_le rfl)
  refine g_ifN_eq (q := 50) (t := 52) dX9_data_47 rfl (by decide) (by omega) (fun c => absurd c (by omega)) (fun _ => ?_)
  refine g_iconst (q := 51) (v := (nI 0)) dX9_data_50 rfl (by decide) ?_
  exact g_iret dX9_data_51 rfl (⟨rfl, hB⟩)
set_option maxRecDepth 20000 in
set_option maxHeartbeats 1000000 in
theorem c_mdata0 {l : Launch} {E : bz_E} {L : List Nat} {g : Nat → va_E} {o : Nat} {I : Nat → Int32} {A : Nat → Nat → Int32} {s m k b i : Nat} (hs : s < 2) (hr : A 6 1 = nI m) (hk : k < m) (hm : m < 2 ^ 31) (hm8 : m ≤ 8) (hcb : A 1 (43 + 7 * (8 * s + k) + 2) = nI b) (hb16 : b < 16) (hi : i < 4) (ht : b.testBit i = true) (hH : bz_H L g o (b_Mod E o I A)) : bz_K l E mX9_data 4 [.ref o, .int (nI s), .int (nI k), .int (nI i)] L g (fun r g1 => r = some (.int (A 1 (43 + 7 * (8 * s + k) + 3 + i))) ∧ bz_B L g g1 [(o, b_Mod E o (va_up I 0 (nI 0)) A)]) := by
  refine bz_K.of (by decide) (bz_le rfl) (fun sz => ?_)
  have hB := bz_B.rf (bz_W.one hH)
  show bz_G _ _ _ _ _ _ _ _ _ _ _ _ 0 [(0, .ref o), (1, .int (nI s)), (2, .int (nI k)), (3, .int (nI i))] []
  refine g_aload_n (q := 1) dX9_data_0 rfl rfl ?_
  refine g_iload_n (q := 2) dX9_data_1 rfl rfl ?_
  refine g_iload_n (q := 3) dX9_data_2 rfl rfl ?_
  refine gb_callV (q := 6) (j := 0) (i := 0) dX9_data_3 rfl kv_X9_249 (c_mnoTag0 hs hr hk hm (hB.1.at (j := 0) rfl)) rfl (by decide) hB rfl rfl rfl rfl (bz_le rfl) (by decide) (by decide) (fun r g1 hQ => ?_)
  obtain ⟨rfl, h1⟩ := hQ
  have hB := hB.sp (j := 0) rfl 0 rfl h1 (bz_le rfl)
  refine g_ifN_ne (q := 9) (t := 50) dX9_data_6 rfl (by decide) (by omega) (fun c => absurd c (by omega)) (fun _ => ?_)
  refine g_aload_n (q := 10) dX9_data_9 rfl rfl ?_
  refine g_iload_n (q := 11) dX9_data_10 rfl rfl ?_
  refine g_iconst (q := 12) (v := (nI 0)) dX9_data_11 rfl (by decide) ?_
  refine g_iconst (q := 13) (v := (nI 3)) dX9_data_12 rfl (by decide) ?_
  refine g_callS (q := 16) dX9_data_13 rfl ks_X9_114 rfl (c_mwithin) (by decide) rfl (bz_le rfl) (by decide) (by decide) (fun r g1 hQ => ?_)
  obtain ⟨rfl, hg⟩ := hQ
  have hg := hg.symm
  subst hg
  refine g_eqi (v := nI (1)) (m_bad0 (m := 4) hi (by decide)) ?_
  refine g_ifN_eq (q := 19) (t := 38) dX9_data_16 rfl (by decide) (by omega) (fun c => absurd c (by omega)) (fun _ => ?_)
  refine g_aload_n (q := 20) dX9_data_19 rfl rfl ?_
  refine gb_getf (q := 23) (j := 0) (i := 0) dX9_data_20 rfl fl_X9_7 hB rfl rfl rfl rfl ?_
  refine g_iload_n (q := 24) dX9_data_23 rfl rfl ?_
  refine g_iload_n (q := 25) dX9_data_24 rfl rfl ?_
  refine g_callS (q := 28) dX9_data_25 rfl ks_X9_252 rfl (c_tagged (s := s) (k := k)) (by decide) rfl (bz_le rfl) (by decide) (by decide) (fun r g1 hQ => ?_)
  obtain ⟨rfl, hg⟩ := hQ
  have hg := hg.symm
  subst hg
  refine g_iconst (q := 29) (v := (nI 2)) dX9_data_28 rfl (by decide) ?_
  refine g_iaddN (q := 30) dX9_data_29 rfl ?_
  refine gb_ialdN (q := 31) (j := 0) (i := 1) dX9_data_30 rfl hB rfl rfl rfl (by omega) (by decide) ?_
  refine g_eqi (v := nI (b)) (hcb) ?_
  refine g_iload_n (q := 32) dX9_data_31 rfl rfl ?_
  refine g_callS (q := 35) dX9_data_32 rfl ks_X9_148 rfl (c_mhas) (by decide) rfl (bz_le rfl) (by decide) (by decide) (fun r g1 hQ => ?_)
  obtain ⟨rfl, hg⟩ := hQ
  have hg := hg.symm
  subst hg
  refine g_eqi (v := nI (1)) ((m_hasb b hb16 i hi).trans (by rw [ht]; rfl)) ?_
  refine g_ifN_ne (q := 38) (t := 42) dX9_data_35 rfl (by decide) (by omega) (fun _ => ?_) (fun c => absurd c (by omega))
  refine g_iconst (q := 43) (v := (nI 0)) dX9_data_42 rfl (by decide) ?_
  refine g_iconst (q := 44) (v := (nI 2)) dX9_data_43 rfl (by decide) ?_
  refine gb_callV (q := 47) (j := 0) (i := 0) dX9_data_44 rfl kv_X9_210 (c_mthrowsIf0 (I := va_up I 0 (nI 0)) (A := A) (k := 2) rfl (hB.1.at (j := 0) rfl)) rfl (by decide) hB rfl rfl rfl rfl (bz_le rfl) (by decide) (by decide) (fun r g1 hQ => ?_)
  obtain ⟨rfl, hg⟩ := hQ
  have hg := hg.symm
  subst hg
  refine g_ifN_eq (q := 50) (t := 52) dX9_data_47 rfl (by decide) (by omega) (fun _ => ?_) (fun c => absurd c (by omega))
  refine g_aload_n (q := 53) dX9_data_52 rfl rfl ?_
  refine gb_getf (q := 56) (j := 0) (i := 0) dX9_data_53 rfl fl_X9_7 hB rfl rfl rfl rfl ?_
  refine g_iload_n (q := 57) dX9_data_56 rfl rfl ?_
  refine g_iload_n (q := 58) dX9_data_57 rfl rfl ?_
  refine g_callS (q := 61) dX9_data_58 rfl ks_X9_252 rfl (c_tagged (s := s) (k := k)) (by decide) rfl (bz_le rfl) (by decide) (by decide) (fun r g1 hQ => ?_)
  obtain ⟨rfl, hg⟩ := hQ
  have hg := hg.symm
  subst hg
  refine g_iconst (q := 62) (v := (nI 3)) dX9_data_61 rfl (by decide) ?_
  refine g_iaddN (q := 63) dX9_data_62 rfl ?_
  refine g_iload_n (q := 64) dX9_data_63 rfl rfl ?_
  refine g_iaddN (q := 65) dX9_data_64 rfl ?_
  refine gb_ialdN (q := 66) (j := 0) (i := 1) dX9_data_65 rfl hB rfl rfl rfl (by omega) (by decide) ?_
  exact g_iret dX9_data_66 rfl (⟨rfl, hB⟩)
