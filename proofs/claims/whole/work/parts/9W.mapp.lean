/-! the reference: append -/
theorem w_putm {E : bz_E} {L : List Nat} {g0 g : Nat → va_E} {o : Nat} {I : Nat → Int32} {A : Nat → Nat → Int32} {n c : Nat} {x : Int32} (hB : bz_B L g0 g [(o, (b_Mod E o I A).set 9 (.inl (E.1.1 20, 600, .inl (upd (A 9) n x))))]) (hx : x = s8 c) : bz_B L g0 g [(o, b_Mod E o I (va_up A 9 (upd (A 9) n (s8 c))))] := by
  subst hx
  exact hB
theorem w_eq {α : Type} {f : Nat → α} {i : Nat} {x : α} : va_up f i x i = x := if_pos rfl
theorem w_ne {α : Type} {f : Nat → α} {i j : Nat} {x : α} (h : j ≠ i) : va_up f i x j = f j := if_neg h
def w_mI (I I9 : Nat → Int32) : Prop := ∀ i, i ≠ 10 → I9 i = I i
def w_mA (A A9 : Nat → Nat → Int32) : Prop := ∀ i, i ≠ 9 → A9 i = A i
theorem w_mI.up {I I9 : Nat → Int32} {x : Int32} (h : w_mI I I9) : w_mI I (va_up I9 10 x) := fun i hi => (w_ne hi).trans (h i hi)
theorem w_mA.up {A A9 : Nat → Nat → Int32} {x : Nat → Int32} (h : w_mA A A9) : w_mA A (va_up A9 9 x) := fun i hi => (w_ne hi).trans (h i hi)
theorem w_mB {A : Nat → Nat → Int32} {b : Nat → Nat} {n c : Nat} (h : ∀ i, i < 600 → A 9 i = s8 (b i)) : ∀ i, i < 600 → va_up A 9 (upd (A 9) n (s8 c)) 9 i = s8 (va_up b n c i) := w_upm h

set_option maxRecDepth 20000 in
set_option maxHeartbeats 1000000 in
theorem c_mbytesOf {l : Launch} {E : bz_E} {L : List Nat} {g : Nat → va_E} {o : Nat} {I : Nat → Int32} {A : Nat → Nat → Int32} {n0 : Nat} {b : Nat → Nat} {v : Int32} (hl0 : I 10 = nI n0) (hn4 : n0 + 4 ≤ 600) (h9 : ∀ i, i < 600 → A 9 i = s8 (b i)) (hH : bz_H L g o (b_Mod E o I A)) : bz_K l E mX9_bytesOf 0 [.ref o, .int v] L g (fun r g1 => r = none ∧ ∃ (I9 : Nat → Int32) (A9 : Nat → Nat → Int32), bz_B L g g1 [(o, b_Mod E o I9 A9)] ∧ I9 10 = nI (n0 + 1 + 1 + 1 + 1) ∧ w_mI I I9 ∧ w_mA A A9 ∧ ∀ i, i < 600 → A9 9 i = s8 (w_b4 b n0 v i)) := by
  refine bz_K.of (by decide) (bz_le rfl) (fun sz => ?_)
  have hB := bz_B.rf (bz_W.one hH)
  have S : ∀ (sh n : Nat) (I2 : Nat → Int32) (A2 : Nat → Nat → Int32) (g1 : Nat → va_E), I2 10 = nI n → n < 600 → bz_B L g g1 [(o, b_Mod E o I2 A2)] → sh < 100 → (∀ g2 : Nat → va_E, bz_B L g g2 [(o, b_Mod E o (va_up I2 10 (nI (n + 1))) (va_up A2 9 (upd (A2 9) n (s8 (w_by v sh)))))] → bz_G l E mX9_bytesOf (bz_R 0 0 0) L sz (bz_Fm E L sz (fun r g1 => r = none ∧ ∃ (I9 : Nat → Int32) (A9 : Nat → Nat → Int32), bz_B L g g1 [(o, b_Mod E o I9 A9)] ∧ I9 10 = nI (n0 + 1 + 1 + 1 + 1) ∧ w_mI I I9 ∧ w_mA A A9 ∧ ∀ i, i < 600 → A9 9 i = s8 (w_b4 b n0 v i))) sz 0 0 L g2 30 [(2, .int (nI sh)), (0, .ref o), (1, .int v)] []) → bz_G l E mX9_bytesOf (bz_R 0 0 0) L sz (bz_Fm E L sz (fun r g1 => r = none ∧ ∃ (I9 : Nat → Int32) (A9 : Nat → Nat → Int32), bz_B L g g1 [(o, b_Mod E o I9 A9)] ∧ I9 10 = nI (n0 + 1 + 1 + 1 + 1) ∧ w_mI I I9 ∧ w_mA A A9 ∧ ∀ i, i < 600 → A9 9 i = s8 (w_b4 b n0 v i))) sz 0 0 L g1 3 [(2, .int (nI sh)), (0, .ref o), (1, .int v)] [] := by
    intro sh n I2 A2 g1 hI hn hB hsh kk
    refine g_iload_n (q := 4) dX9_bytesOf_3 rfl rfl ?_
    refine g_ifN_lt (q := 7) (t := 36) dX9_bytesOf_4 rfl (by decide) (by omega) ?_
    refine g_aload_n (q := 8) dX9_bytesOf_7 rfl rfl ?_
    refine gb_getf (q := 11) (j := 0) (i := 0) dX9_bytesOf_8 rfl fl_X9_34 hB rfl rfl rfl rfl ?_
    refine g_aload_n (q := 12) dX9_bytesOf_11 rfl rfl ?_
    refine gb_getf (q := 15) (j := 0) (i := 0) dX9_bytesOf_12 rfl fl_X9_88 hB rfl rfl rfl rfl ?_
    refine g_eqi (v := nI (n)) (hI) ?_
    refine g_iload_n (q := 16) dX9_bytesOf_15 rfl rfl ?_
    refine g_iload_n (q := 17) dX9_bytesOf_16 rfl rfl ?_
    refine g_ishr (q := 18) dX9_bytesOf_17 rfl ?_
    refine g_i2b (q := 19) dX9_bytesOf_18 rfl ?_
    refine gb_bastN (q := 20) (j := 0) (i := 9) dX9_bytesOf_19 rfl hB rfl rfl rfl (by omega) (by decide) (fun g hB => ?_)
    have hB := w_putm (I := I2) (A := A2) (n := n) (c := w_by v sh) hB (w_by_s v sh)
    refine g_aload_n (q := 21) dX9_bytesOf_20 rfl rfl ?_
    refine g_dup (q := 22) dX9_bytesOf_21 rfl rfl ?_
    refine gb_getf (q := 25) (j := 0) (i := 0) dX9_bytesOf_22 rfl fl_X9_88 hB rfl rfl rfl rfl ?_
    refine g_eqi (v := nI n) hI ?_
    refine g_iconst (q := 26) (v := (nI 1)) dX9_bytesOf_25 rfl (by decide) ?_
    refine g_iaddN (q := 27) dX9_bytesOf_26 rfl ?_
    refine gb_putf (q := 30) (j := 0) (i := 0) dX9_bytesOf_27 rfl fp_X9_88 hB rfl rfl rfl (bz_le rfl) rfl rfl (fun g hB => ?_)
    exact kk _ hB
  show bz_G _ _ _ _ _ _ _ _ _ _ _ _ 0 [(0, .ref o), (1, .int v)] []
  refine g_bipush (q := 2) (v := (nI 24)) dX9_bytesOf_0 rfl (by decide) ?_
  refine g_istore_n (q := 3) rfl dX9_bytesOf_2 rfl (by decide) rfl ?_
  refine g_lvs (lv1 := [(2, .int (nI 24)), (0, .ref o), (1, .int v)]) ⟨rfl, rfl, rfl, trivial⟩ ?_
  refine S 24 n0 _ _ _ hl0 (by omega) hB (by decide) (fun g hB => ?_)
  refine g_iincM (q := 33) (c := 8) dX9_bytesOf_30 rfl (by decide) rfl rfl (by decide) (by decide) ?_
  refine g_goto (q := 3) dX9_bytesOf_33 (by decide) ?_
  refine g_lvs (lv1 := [(2, .int (nI 16)), (0, .ref o), (1, .int v)]) ⟨rfl, rfl, rfl, trivial⟩ ?_
  refine S 16 (n0 + 1) _ _ _ w_eq (by omega) hB (by decide) (fun g hB => ?_)
  refine g_iincM (q := 33) (c := 8) dX9_bytesOf_30 rfl (by decide) rfl rfl (by decide) (by decide) ?_
  refine g_goto (q := 3) dX9_bytesOf_33 (by decide) ?_
  refine g_lvs (lv1 := [(2, .int (nI 8)), (0, .ref o), (1, .int v)]) ⟨rfl, rfl, rfl, trivial⟩ ?_
  refine S 8 (n0 + 1 + 1) _ _ _ w_eq (by omega) hB (by decide) (fun g hB => ?_)
  refine g_iincM (q := 33) (c := 8) dX9_bytesOf_30 rfl (by decide) rfl rfl (by decide) (by decide) ?_
  refine g_goto (q := 3) dX9_bytesOf_33 (by decide) ?_
  refine g_lvs (lv1 := [(2, .int (nI 0)), (0, .ref o), (1, .int v)]) ⟨rfl, rfl, rfl, trivial⟩ ?_
  refine S 0 (n0 + 1 + 1 + 1) _ _ _ w_eq (by omega) hB (by decide) (fun g hB => ?_)
  refine g_iinc (q := 33) (v := -8) dX9_bytesOf_30 rfl (by decide) rfl rfl (by decide) ?_
  refine g_goto (q := 3) dX9_bytesOf_33 (by decide) ?_
  refine g_iload_n (q := 4) dX9_bytesOf_3 rfl rfl ?_
  refine g_if_lt (q := 7) (t := 36) dX9_bytesOf_4 rfl (by decide) (fun _ => ?_) (fun c => absurd (by decide) c)
  exact g_vret dX9_bytesOf_36 rfl ⟨rfl, _, _, hB, w_eq, w_mI.up (w_mI.up (w_mI.up (w_mI.up (fun _ _ => rfl)))), w_mA.up (w_mA.up (w_mA.up (w_mA.up (fun _ _ => rfl)))), w_mB (w_mB (w_mB (w_mB h9)))⟩
set_option maxRecDepth 20000 in
set_option maxHeartbeats 1000000 in
theorem c_mappend1 {l : Launch} {E : bz_E} {L : List Nat} {g : Nat → va_E} {o : Nat} {I : Nat → Int32} {A : Nat → Nat → Int32} {n : Nat} {a b c d e : Int32} (hl : I 10 = nI n) (hn : n ≤ 600) (hb : 600 < n + 20) (hH : bz_H L g o (b_Mod E o I A)) : bz_K l E mX9_append 1 [.ref o, .int a, .int b, .int c, .int d, .int e] L g (fun r g1 => r = some (.int (-1)) ∧ bz_B L g g1 [(o, b_Mod E o (va_up I 0 (nI 0)) A)]) := by
  refine bz_K.of (by decide) (bz_le rfl) (fun sz => ?_)
  have hB := bz_B.rf (bz_W.one hH)
  show bz_G _ _ _ _ _ _ _ _ _ _ _ _ 0 [(0, .ref o), (1, .int a), (2, .int b), (3, .int c), (4, .int d), (5, .int e)] []
  refine g_aload_n (q := 1) dX9_append_0 rfl rfl ?_
  refine g_iconst (q := 2) (v := (nI 0)) dX9_append_1 rfl (by decide) ?_
  refine gb_putf (q := 5) (j := 0) (i := 0) dX9_append_2 rfl fp_X9_70 hB rfl rfl rfl (bz_le rfl) rfl rfl (fun g hB => ?_)
  refine g_aload_n (q := 6) dX9_append_5 rfl rfl ?_
  refine gb_getf (q := 9) (j := 0) (i := 0) dX9_append_6 rfl fl_X9_88 hB rfl rfl rfl rfl ?_
  refine g_eqi (v := nI (n)) (hl) ?_
  refine g_bipush (q := 11) (v := (nI 20)) dX9_append_9 rfl (by decide) ?_
  refine g_iaddN (q := 12) dX9_append_11 rfl ?_
  refine g_sipush (q := 15) (v := (nI 600)) dX9_append_12 rfl (by decide) ?_
  refine g_icmpN_le (q := 18) (t := 20) dX9_append_15 rfl (by decide) (by omega) (by omega) (fun c => absurd c (by omega)) (fun _ => ?_)
  refine g_iconst (q := 19) (v := (-1)) dX9_append_18 rfl (by decide) ?_
  exact g_iret dX9_append_19 rfl (⟨rfl, hB⟩)
set_option maxRecDepth 20000 in
set_option maxHeartbeats 1000000 in
theorem c_mappend0 {l : Launch} {E : bz_E} {L : List Nat} {g : Nat → va_E} {o : Nat} {I : Nat → Int32} {A : Nat → Nat → Int32} {n : Nat} {B : Nat → Nat} {a b c d e : Int32} (hl : I 10 = nI n) (hn : n + 20 ≤ 600) (h9 : ∀ i, i < 600 → A 9 i = s8 (B i)) (hH : bz_H L g o (b_Mod E o I A)) : bz_K l E mX9_append 1 [.ref o, .int a, .int b, .int c, .int d, .int e] L g (fun r g1 => r = some (.int (nI (n + 20))) ∧ ∃ (I9 : Nat → Int32) (A9 : Nat → Nat → Int32), bz_B L g g1 [(o, b_Mod E o I9 A9)] ∧ I9 10 = nI (n + 20) ∧ w_mI (va_up I 0 (nI 0)) I9 ∧ w_mA A A9 ∧ ∀ i, i < 600 → A9 9 i = s8 (w_b20 B n a b c d e i)) := by
  refine bz_K.of (by decide) (bz_le rfl) (fun sz => ?_)
  have hB := bz_B.rf (bz_W.one hH)
  show bz_G _ _ _ _ _ _ _ _ _ _ _ _ 0 [(0, .ref o), (1, .int a), (2, .int b), (3, .int c), (4, .int d), (5, .int e)] []
  refine g_aload_n (q := 1) dX9_append_0 rfl rfl ?_
  refine g_iconst (q := 2) (v := (nI 0)) dX9_append_1 rfl (by decide) ?_
  refine gb_putf (q := 5) (j := 0) (i := 0) dX9_append_2 rfl fp_X9_70 hB rfl rfl rfl (bz_le rfl) rfl rfl (fun g hB => ?_)
  refine g_aload_n (q := 6) dX9_append_5 rfl rfl ?_
  refine gb_getf (q := 9) (j := 0) (i := 0) dX9_append_6 rfl fl_X9_88 hB rfl rfl rfl rfl ?_
  refine g_eqi (v := nI (n)) (hl) ?_
  refine g_bipush (q := 11) (v := (nI 20)) dX9_append_9 rfl (by decide) ?_
  refine g_iaddN (q := 12) dX9_append_11 rfl ?_
  refine g_sipush (q := 15) (v := (nI 600)) dX9_append_12 rfl (by decide) ?_
  refine g_icmpN_le (q := 18) (t := 20) dX9_append_15 rfl (by decide) (by omega) (by omega) (fun _ => ?_) (fun c => absurd c (by omega))
  refine g_aload_n (q := 21) dX9_append_20 rfl rfl ?_
  refine g_iload_n (q := 22) dX9_append_21 rfl rfl ?_
  refine gb_callV (q := 25) (j := 0) (i := 0) dX9_append_22 rfl kv_X9_91 (c_mbytesOf (I := (va_up I 0 (nI 0))) (A := A) (n0 := n + 0) (b := B) (v := a) hl (by omega) h9 (hB.1.at (j := 0) rfl)) rfl (by decide) hB rfl rfl rfl rfl (bz_le rfl) (by decide) (by decide) (fun r g1 hQ => ?_)
  obtain ⟨rfl, I0, A0, h1, hl0, hI0, hA0, h90⟩ := hQ
  have hB := w_B1 (j := 0) hB rfl h1 rfl
  refine g_aload_n (q := 26) dX9_append_25 rfl rfl ?_
  refine g_iload_n (q := 27) dX9_append_26 rfl rfl ?_
  refine gb_callV (q := 30) (j := 0) (i := 0) dX9_append_27 rfl kv_X9_91 (c_mbytesOf (I := I0) (A := A0) (n0 := n + 4) (b := (w_b4 B n a)) (v := b) hl0 (by omega) h90 (hB.1.at (j := 0) rfl)) rfl (by decide) hB rfl rfl rfl rfl (bz_le rfl) (by decide) (by decide) (fun r g1 hQ => ?_)
  obtain ⟨rfl, I1, A1, h1, hl1, hI1, hA1, h91⟩ := hQ
  have hB := w_B1 (j := 0) hB rfl h1 rfl
  refine g_aload_n (q := 31) dX9_append_30 rfl rfl ?_
  refine g_iload_n (q := 32) dX9_append_31 rfl rfl ?_
  refine gb_callV (q := 35) (j := 0) (i := 0) dX9_append_32 rfl kv_X9_91 (c_mbytesOf (I := I1) (A := A1) (n0 := n + 8) (b := (w_b4 (w_b4 B n a) (n + 4) b)) (v := c) hl1 (by omega) h91 (hB.1.at (j := 0) rfl)) rfl (by decide) hB rfl rfl rfl rfl (bz_le rfl) (by decide) (by decide) (fun r g1 hQ => ?_)
  obtain ⟨rfl, I2, A2, h1, hl2, hI2, hA2, h92⟩ := hQ
  have hB := w_B1 (j := 0) hB rfl h1 rfl
  refine g_aload_n (q := 36) dX9_append_35 rfl rfl ?_
  refine g_iload (q := 38) dX9_append_36 rfl rfl ?_
  refine gb_callV (q := 41) (j := 0) (i := 0) dX9_append_38 rfl kv_X9_91 (c_mbytesOf (I := I2) (A := A2) (n0 := n + 12) (b := (w_b4 (w_b4 (w_b4 B n a) (n + 4) b) (n + 8) c)) (v := d) hl2 (by omega) h92 (hB.1.at (j := 0) rfl)) rfl (by decide) hB rfl rfl rfl rfl (bz_le rfl) (by decide) (by decide) (fun r g1 hQ => ?_)
  obtain ⟨rfl, I3, A3, h1, hl3, hI3, hA3, h93⟩ := hQ
  have hB := w_B1 (j := 0) hB rfl h1 rfl
  refine g_aload_n (q := 42) dX9_append_41 rfl rfl ?_
  refine g_iload (q := 44) dX9_append_42 rfl rfl ?_
  refine gb_callV (q := 47) (j := 0) (i := 0) dX9_append_44 rfl kv_X9_91 (c_mbytesOf (I := I3) (A := A3) (n0 := n + 16) (b := (w_b4 (w_b4 (w_b4 (w_b4 B n a) (n + 4) b) (n + 8) c) (n + 12) d)) (v := e) hl3 (by omega) h93 (hB.1.at (j := 0) rfl)) rfl (by decide) hB rfl rfl rfl rfl (bz_le rfl) (by decide) (by decide) (fun r g1 hQ => ?_)
  obtain ⟨rfl, I4, A4, h1, hl4, hI4, hA4, h94⟩ := hQ
  have hB := w_B1 (j := 0) hB rfl h1 rfl
  refine g_aload_n (q := 48) dX9_append_47 rfl rfl ?_
  refine gb_getf (q := 51) (j := 0) (i := 0) dX9_append_48 rfl fl_X9_88 hB rfl rfl rfl rfl ?_
  refine g_eqi (v := nI (n + 20)) hl4 ?_
  exact g_iret dX9_append_51 rfl ⟨rfl, I4, A4, hB, hl4, fun i h => by rw [hI4 i h, hI3 i h, hI2 i h, hI1 i h, hI0 i h], fun i h => by rw [hA4 i h, hA3 i h, hA2 i h, hA1 i h, hA0 i h], h94⟩
