/-! both: append -/
theorem w_put {E : bz_E} {L : List Nat} {g0 g : Nat → va_E} {o : Nat} {A : WA} {R : WR} {n c : Nat} {x : Int32} (hB : bz_B L g0 g ((w_bs E o A R).set 1 (o + 1, [.inl (E.1.1 20, 600, .inl (upd (fun i => s8 (A.b i)) n x))]))) (hx : x = s8 c) : bz_B L g0 g (w_bs E o (A.u_b (va_up A.b n c)) R) := by
  subst hx
  rw [w_ups] at hB
  exact hB

set_option maxRecDepth 20000 in
set_option maxHeartbeats 1000000 in
theorem c8_appendBytes {l : Launch} {E : bz_E} {L : List Nat} {g : Nat → va_E} {o : Nat} {A : WA} {v : Int32} (hn4 : A.n + 4 ≤ 600) (hX : w_X E L g o A) : bz_K l E mX8_appendBytes 1 [.ref o, .int v] L g (fun r g1 => r = none ∧ w_P E L g o ((A.u_b (w_b4 A.b A.n v)).u_n (A.n + 1 + 1 + 1 + 1)) g1) := by
  refine bz_K.of (by decide) (bz_le rfl) (fun sz => ?_)
  obtain ⟨R, hW, hk⟩ := hX
  have hB := bz_B.rf hW
  obtain ⟨hn6, hb6, hpq, hT, hD, hS, hnw, hlen, hrg, hs0, hs1⟩ := hk
  have S : ∀ (sh n : Nat) (b : Nat → Nat) (g1 : Nat → va_E), (sh = 24 ∨ sh = 16 ∨ sh = 8 ∨ sh = 0) → n < 600 → bz_B L g g1 (w_bs E o ((A.u_b b).u_n n) R) → (∀ g2 : Nat → va_E, bz_B L g g2 (w_bs E o ((A.u_b (va_up b n (w_by v sh))).u_n (n + 1)) R) → bz_G l E mX8_appendBytes (bz_R 1 0 0) L sz (bz_Fm E L sz (fun r g1 => r = none ∧ w_P E L g o ((A.u_b (w_b4 A.b A.n v)).u_n (A.n + 1 + 1 + 1 + 1)) g1)) sz 0 0 L g2 49 [(2, .int (nI sh)), (0, .ref o), (1, .int v)] []) → bz_G l E mX8_appendBytes (bz_R 1 0 0) L sz (bz_Fm E L sz (fun r g1 => r = none ∧ w_P E L g o ((A.u_b (w_b4 A.b A.n v)).u_n (A.n + 1 + 1 + 1 + 1)) g1)) sz 0 0 L g1 3 [(2, .int (nI sh)), (0, .ref o), (1, .int v)] [] := by
    intro sh n b g1 hsh hn hB kk
    refine g_iload_n (q := 4) dX8_appendBytes_3 rfl rfl ?_
    refine g_ifN_lt (q := 7) (t := 55) dX8_appendBytes_4 rfl (by decide) (by omega) ?_
    refine g_aload_n (q := 8) dX8_appendBytes_7 rfl rfl ?_
    refine gb_getf (q := 11) (j := 0) (i := 0) dX8_appendBytes_8 rfl fl_X8_64 hB rfl rfl rfl rfl ?_
    refine g_eqi (v := nI (n)) (rfl) ?_
    refine g_ifN_lt (q := 14) (t := 49) dX8_appendBytes_11 rfl (by decide) (by omega) ?_
    refine g_aload_n (q := 15) dX8_appendBytes_14 rfl rfl ?_
    refine gb_getf (q := 18) (j := 0) (i := 0) dX8_appendBytes_15 rfl fl_X8_64 hB rfl rfl rfl rfl ?_
    refine g_eqi (v := nI (n)) (rfl) ?_
    refine g_aload_n (q := 19) dX8_appendBytes_18 rfl rfl ?_
    refine gb_getf (q := 22) (j := 0) (i := 0) dX8_appendBytes_19 rfl fl_X8_9 hB rfl rfl rfl rfl ?_
    refine gb_alen (q := 23) (j := 1) (i := 0) (t0 := 0) dX8_appendBytes_22 rfl hB rfl rfl rfl rfl ?_
    refine g_icmpN_ge (q := 26) (t := 49) dX8_appendBytes_23 rfl (by decide) (by omega) (by omega) (fun c => absurd c (by omega)) (fun _ => ?_)
    refine g_aload_n (q := 27) dX8_appendBytes_26 rfl rfl ?_
    refine gb_getf (q := 30) (j := 0) (i := 0) dX8_appendBytes_27 rfl fl_X8_9 hB rfl rfl rfl rfl ?_
    refine g_aload_n (q := 31) dX8_appendBytes_30 rfl rfl ?_
    refine gb_getf (q := 34) (j := 0) (i := 0) dX8_appendBytes_31 rfl fl_X8_64 hB rfl rfl rfl rfl ?_
    refine g_eqi (v := nI (n)) (rfl) ?_
    refine g_iload_n (q := 35) dX8_appendBytes_34 rfl rfl ?_
    refine g_iload_n (q := 36) dX8_appendBytes_35 rfl rfl ?_
    refine g_iushr (q := 37) dX8_appendBytes_36 rfl rfl ?_
    refine g_i2b (q := 38) dX8_appendBytes_37 rfl ?_
    refine gb_bastN (q := 39) (j := 1) (i := 0) dX8_appendBytes_38 rfl hB rfl rfl rfl (by omega) (by decide) (fun g hB => ?_)
    have hB := w_put (A := (A.u_b b).u_n n) (n := n) (c := w_by v sh) hB (w_by_u hsh)
    refine g_aload_n (q := 40) dX8_appendBytes_39 rfl rfl ?_
    refine g_dup (q := 41) dX8_appendBytes_40 rfl rfl ?_
    refine gb_getf (q := 44) (j := 0) (i := 0) dX8_appendBytes_41 rfl fl_X8_64 hB rfl rfl rfl rfl ?_
    refine g_iconst (q := 45) (v := (nI 1)) dX8_appendBytes_44 rfl (by decide) ?_
    refine g_iaddN (q := 46) dX8_appendBytes_45 rfl ?_
    refine gb_putf (q := 49) (j := 0) (i := 0) dX8_appendBytes_46 rfl fp_X8_64 hB rfl rfl rfl (bz_le rfl) rfl rfl (fun g hB => ?_)
    exact kk _ hB
  show bz_G _ _ _ _ _ _ _ _ _ _ _ _ 0 [(0, .ref o), (1, .int v)] []
  refine g_bipush (q := 2) (v := (nI 24)) dX8_appendBytes_0 rfl (by decide) ?_
  refine g_istore_n (q := 3) rfl dX8_appendBytes_2 rfl (by decide) rfl ?_
  refine g_lvs (lv1 := [(2, .int (nI 24)), (0, .ref o), (1, .int v)]) ⟨rfl, rfl, rfl, trivial⟩ ?_
  refine S 24 A.n _ _ (by decide) (by omega) hB (fun g hB => ?_)
  refine g_iincM (q := 52) (c := 8) dX8_appendBytes_49 rfl (by decide) rfl rfl (by decide) (by decide) ?_
  refine g_goto (q := 3) dX8_appendBytes_52 (by decide) ?_
  refine g_lvs (lv1 := [(2, .int (nI 16)), (0, .ref o), (1, .int v)]) ⟨rfl, rfl, rfl, trivial⟩ ?_
  refine S 16 (A.n + 1) _ _ (by decide) (by omega) hB (fun g hB => ?_)
  refine g_iincM (q := 52) (c := 8) dX8_appendBytes_49 rfl (by decide) rfl rfl (by decide) (by decide) ?_
  refine g_goto (q := 3) dX8_appendBytes_52 (by decide) ?_
  refine g_lvs (lv1 := [(2, .int (nI 8)), (0, .ref o), (1, .int v)]) ⟨rfl, rfl, rfl, trivial⟩ ?_
  refine S 8 (A.n + 1 + 1) _ _ (by decide) (by omega) hB (fun g hB => ?_)
  refine g_iincM (q := 52) (c := 8) dX8_appendBytes_49 rfl (by decide) rfl rfl (by decide) (by decide) ?_
  refine g_goto (q := 3) dX8_appendBytes_52 (by decide) ?_
  refine g_lvs (lv1 := [(2, .int (nI 0)), (0, .ref o), (1, .int v)]) ⟨rfl, rfl, rfl, trivial⟩ ?_
  refine S 0 (A.n + 1 + 1 + 1) _ _ (by decide) (by omega) hB (fun g hB => ?_)
  refine g_iinc (q := 52) (v := -8) dX8_appendBytes_49 rfl (by decide) rfl rfl (by decide) ?_
  refine g_goto (q := 3) dX8_appendBytes_52 (by decide) ?_
  refine g_iload_n (q := 4) dX8_appendBytes_3 rfl rfl ?_
  refine g_if_lt (q := 7) (t := 55) dX8_appendBytes_4 rfl (by decide) (fun _ => ?_) (fun c => absurd (by decide) c)
  exact g_vret dX8_appendBytes_55 rfl ⟨rfl, w_to (A := (A.u_b (w_b4 A.b A.n v)).u_n (A.n + 1 + 1 + 1 + 1)) (R := R) hB ⟨(show A.n + 1 + 1 + 1 + 1 ≤ 600 by omega), w_b4_lt hb6, hpq, hT, hD, hS, hnw, hlen, hrg, hs0, hs1⟩⟩
set_option maxRecDepth 20000 in
set_option maxHeartbeats 1000000 in
theorem c8_append1 {l : Launch} {E : bz_E} {L : List Nat} {g : Nat → va_E} {o : Nat} {A : WA} {a b c d e : Int32} (hn4 : 600 < A.n + 20) (hX : w_X E L g o A) : bz_K l E mX8_append 2 [.ref o, .int a, .int b, .int c, .int d, .int e] L g (fun r g1 => r = some (.int (-1)) ∧ g1 = g) := by
  refine bz_K.of (by decide) (bz_le rfl) (fun sz => ?_)
  obtain ⟨R, hW, hk⟩ := hX
  have hB := bz_B.rf hW
  obtain ⟨hn6, hb6, hpq, hT, hD, hS, hnw, hlen, hrg, hs0, hs1⟩ := hk
  show bz_G _ _ _ _ _ _ _ _ _ _ _ _ 0 [(0, .ref o), (1, .int a), (2, .int b), (3, .int c), (4, .int d), (5, .int e)] []
  refine g_aload_n (q := 1) dX8_append_0 rfl rfl ?_
  refine gb_getf (q := 4) (j := 0) (i := 0) dX8_append_1 rfl fl_X8_64 hB rfl rfl rfl rfl ?_
  refine g_bipush (q := 6) (v := (nI 20)) dX8_append_4 rfl (by decide) ?_
  refine g_iaddN (q := 7) dX8_append_6 rfl ?_
  refine g_sipush (q := 10) (v := (nI 600)) dX8_append_7 rfl (by decide) ?_
  refine g_icmpN_le (q := 13) (t := 15) dX8_append_10 rfl (by decide) (by omega) (by omega) (fun c => absurd c (by omega)) (fun _ => ?_)
  refine g_iconst (q := 14) (v := (-1)) dX8_append_13 rfl (by decide) ?_
  exact g_iret dX8_append_14 rfl (⟨rfl, rfl⟩)
def w_b20 (b : Nat → Nat) (n : Nat) (v0 v1 v2 v3 v4 : Int32) : Nat → Nat := w_b4 (w_b4 (w_b4 (w_b4 (w_b4 b n v0) (n + 4) v1) (n + 8) v2) (n + 12) v3) (n + 16) v4
theorem bz_S.tr2 {g0 g g1 : Nat → va_E} {rs : List (Nat × Nat)} (h : bz_S g g0 rs) (h1 : bz_S g1 g rs) : bz_S g1 g0 rs := fun a ha => (h1 a ha).trans (h a ha)
set_option maxRecDepth 20000 in
set_option maxHeartbeats 1000000 in
theorem c8_append0 {l : Launch} {E : bz_E} {L : List Nat} {g : Nat → va_E} {o : Nat} {A : WA} {a b c d e : Int32} (hn4 : A.n + 20 ≤ 600) (hX : w_X E L g o A) : bz_K l E mX8_append 2 [.ref o, .int a, .int b, .int c, .int d, .int e] L g (fun r g1 => r = some (.int (nI (A.n + 20))) ∧ w_P E L g o ((A.u_b (w_b20 A.b A.n a b c d e)).u_n (A.n + 20)) g1) := by
  refine bz_K.of (by decide) (bz_le rfl) (fun sz => ?_)
  have hX0 := hX
  obtain ⟨R, hW, hk⟩ := id hX
  have hB := bz_B.rf hW
  obtain ⟨hn6, hb6, hpq, hT, hD, hS, hnw, hlen, hrg, hs0, hs1⟩ := hk
  show bz_G _ _ _ _ _ _ _ _ _ _ _ _ 0 [(0, .ref o), (1, .int a), (2, .int b), (3, .int c), (4, .int d), (5, .int e)] []
  refine g_aload_n (q := 1) dX8_append_0 rfl rfl ?_
  refine gb_getf (q := 4) (j := 0) (i := 0) dX8_append_1 rfl fl_X8_64 hB rfl rfl rfl rfl ?_
  refine g_bipush (q := 6) (v := (nI 20)) dX8_append_4 rfl (by decide) ?_
  refine g_iaddN (q := 7) dX8_append_6 rfl ?_
  refine g_sipush (q := 10) (v := (nI 600)) dX8_append_7 rfl (by decide) ?_
  refine g_icmpN_le (q := 13) (t := 15) dX8_append_10 rfl (by decide) (by omega) (by omega) (fun _ => ?_) (fun c => absurd c (by omega))
  have hfr : bz_S g g [(o, 407)] := fun _ _ => rfl
  refine g_aload_n (q := 16) dX8_append_15 rfl rfl ?_
  refine g_iload_n (q := 17) dX8_append_16 rfl rfl ?_
  obtain ⟨R, hW, hk⟩ := id hX
  have hB := bz_B.rf hW
  refine gb_callV (q := 20) (j := 0) (i := 0) dX8_append_17 rfl kv_X8_67 (c8_appendBytes (A := (A.u_b A.b).u_n (A.n + 0)) (v := a) (show A.n + 0 + 4 ≤ 600 by omega) hX) rfl (by decide) hB rfl rfl rfl rfl (bz_le rfl) (by decide) (by decide) (fun r g1 hQ => ?_)
  obtain ⟨rfl, hP, hX⟩ := hQ
  have hfr := bz_S.tr2 hfr hP
  have hX : w_X E L g1 o ((A.u_b (w_b4 A.b A.n a)).u_n (A.n + 4)) := hX
  refine g_aload_n (q := 21) dX8_append_20 rfl rfl ?_
  refine g_iload_n (q := 22) dX8_append_21 rfl rfl ?_
  obtain ⟨R, hW, hk⟩ := id hX
  have hB := bz_B.rf hW
  refine gb_callV (q := 25) (j := 0) (i := 0) dX8_append_22 rfl kv_X8_67 (c8_appendBytes (A := (A.u_b (w_b4 A.b A.n a)).u_n (A.n + 4)) (v := b) (show A.n + 4 + 4 ≤ 600 by omega) hX) rfl (by decide) hB rfl rfl rfl rfl (bz_le rfl) (by decide) (by decide) (fun r g1 hQ => ?_)
  obtain ⟨rfl, hP, hX⟩ := hQ
  have hfr := bz_S.tr2 hfr hP
  have hX : w_X E L g1 o ((A.u_b (w_b4 (w_b4 A.b A.n a) (A.n + 4) b)).u_n (A.n + 8)) := hX
  refine g_aload_n (q := 26) dX8_append_25 rfl rfl ?_
  refine g_iload_n (q := 27) dX8_append_26 rfl rfl ?_
  obtain ⟨R, hW, hk⟩ := id hX
  have hB := bz_B.rf hW
  refine gb_callV (q := 30) (j := 0) (i := 0) dX8_append_27 rfl kv_X8_67 (c8_appendBytes (A := (A.u_b (w_b4 (w_b4 A.b A.n a) (A.n + 4) b)).u_n (A.n + 8)) (v := c) (show A.n + 8 + 4 ≤ 600 by omega) hX) rfl (by decide) hB rfl rfl rfl rfl (bz_le rfl) (by decide) (by decide) (fun r g1 hQ => ?_)
  obtain ⟨rfl, hP, hX⟩ := hQ
  have hfr := bz_S.tr2 hfr hP
  have hX : w_X E L g1 o ((A.u_b (w_b4 (w_b4 (w_b4 A.b A.n a) (A.n + 4) b) (A.n + 8) c)).u_n (A.n + 12)) := hX
  refine g_aload_n (q := 31) dX8_append_30 rfl rfl ?_
  refine g_iload (q := 33) dX8_append_31 rfl rfl ?_
  obtain ⟨R, hW, hk⟩ := id hX
  have hB := bz_B.rf hW
  refine gb_callV (q := 36) (j := 0) (i := 0) dX8_append_33 rfl kv_X8_67 (c8_appendBytes (A := (A.u_b (w_b4 (w_b4 (w_b4 A.b A.n a) (A.n + 4) b) (A.n + 8) c)).u_n (A.n + 12)) (v := d) (show A.n + 12 + 4 ≤ 600 by omega) hX) rfl (by decide) hB rfl rfl rfl rfl (bz_le rfl) (by decide) (by decide) (fun r g1 hQ => ?_)
  obtain ⟨rfl, hP, hX⟩ := hQ
  have hfr := bz_S.tr2 hfr hP
  have hX : w_X E L g1 o ((A.u_b (w_b4 (w_b4 (w_b4 (w_b4 A.b A.n a) (A.n + 4) b) (A.n + 8) c) (A.n + 12) d)).u_n (A.n + 16)) := hX
  refine g_aload_n (q := 37) dX8_append_36 rfl rfl ?_
  refine g_iload (q := 39) dX8_append_37 rfl rfl ?_
  obtain ⟨R, hW, hk⟩ := id hX
  have hB := bz_B.rf hW
  refine gb_callV (q := 42) (j := 0) (i := 0) dX8_append_39 rfl kv_X8_67 (c8_appendBytes (A := (A.u_b (w_b4 (w_b4 (w_b4 (w_b4 A.b A.n a) (A.n + 4) b) (A.n + 8) c) (A.n + 12) d)).u_n (A.n + 16)) (v := e) (show A.n + 16 + 4 ≤ 600 by omega) hX) rfl (by decide) hB rfl rfl rfl rfl (bz_le rfl) (by decide) (by decide) (fun r g1 hQ => ?_)
  obtain ⟨rfl, hP, hX⟩ := hQ
  have hfr := bz_S.tr2 hfr hP
  have hX : w_X E L g1 o ((A.u_b (w_b4 (w_b4 (w_b4 (w_b4 (w_b4 A.b A.n a) (A.n + 4) b) (A.n + 8) c) (A.n + 12) d) (A.n + 16) e)).u_n (A.n + 20)) := hX
  obtain ⟨R, hW, hk⟩ := id hX
  have hB := bz_B.rf hW
  refine g_aload_n (q := 43) dX8_append_42 rfl rfl ?_
  refine gb_getf (q := 46) (j := 0) (i := 0) dX8_append_43 rfl fl_X8_64 hB rfl rfl rfl rfl ?_
  exact g_iret dX8_append_46 rfl ⟨rfl, hfr, hX⟩
