/-! CONSTRUCTORS -/
theorem ci_last {L : List Nat} {g0 g : Nat → va_E} {a n : Nat} {es : List va_E} {x : va_E} (h : ci_S L g0 a (n + 1) (es ++ [x]) g) : bz_H (bz_pool L a (n + 1)) g (a + 1 + n) [x] := by
  have hl : es.length = n + 1 := by have := h.1; rw [List.length_append] at this; exact Nat.succ.inj this
  intro i e he
  have hi : i = 0 := by have := (List.getElem?_eq_some_iff.mp he).1; simp at this; omega
  subst hi
  have := h.2.1 (n + 1) e (by rw [List.getElem?_append_right (by omega), hl, Nat.sub_self]; exact he)
  rw [show a + (n + 1) = a + 1 + n + 0 by omega] at this
  exact this
set_option maxRecDepth 20000 in
set_option maxHeartbeats 2000000 in
theorem ci_X6 {l : Launch} {E : bz_E} {L : List Nat} {g : Nat → va_E} {a : Nat} (hH : bz_H L g a [.inr (6, [.null, .null, .int 0])]) : bz_KI l E mX6_init 1 2 616 a L g (ci_S L g a 2 (b_Sum E a (fun _ => 0) (fun _ => 0) 0)) := by
  refine bz_KI.of (by decide) (by decide) ?_
  have hC : ci_S L g a 0 [.inr (6, [.null, .null, .int 0])] g := ⟨rfl, by rw [bz_pool_0]; exact hH, fun _ _ => rfl⟩
  refine g_aload_n (q := 1) dX6_init_0 rfl rfl ?_
  refine g_objI (q := 4) dX6_init_1 rfl (bz_mw 177 (by decide +kernel)) (by decide) (bz_le rfl) ?_
  refine g_aload_n (q := 5) dX6_init_4 rfl rfl ?_
  refine g_bipush (q := 7) (v := (nI 16)) dX6_init_5 rfl (by decide) ?_
  refine gi_arr (q := 9) (t0 := 1) (ty := .int) (x0 := .inl (fun _ => 0)) hC dX6_init_7 rfl rfl (bz_mw 165 (by decide +kernel)) rfl (fun _ _ h => h) (fun _ => rfl) (by decide) (by decide) (bz_le rfl) (bz_le rfl) (fun g hC => ?_)
  refine gi_putF (q := 12) (i := 0) hC dX6_init_9 rfl fp_X6_9 rfl rfl rfl (bz_le rfl) rfl rfl (fun g hC => ?_)
  refine g_aload_n (q := 13) dX6_init_12 rfl rfl ?_
  refine g_sipush (q := 16) (v := (nI 600)) dX6_init_13 rfl (by decide) ?_
  refine gi_arr (q := 18) (t0 := 1) (ty := .int) (x0 := .inl (fun _ => 0)) hC dX6_init_16 rfl rfl (bz_mw 165 (by decide +kernel)) rfl (fun _ _ h => h) (fun _ => rfl) (by decide) (by decide) (bz_le rfl) (bz_le rfl) (fun g hC => ?_)
  refine gi_putF (q := 21) (i := 0) hC dX6_init_18 rfl fp_X6_15 rfl rfl rfl (bz_le rfl) rfl rfl (fun g hC => ?_)
  exact gi_ret dX6_init_21 rfl rfl rfl hC
set_option maxRecDepth 20000 in
set_option maxHeartbeats 2000000 in
theorem ci_X2 {l : Launch} {E : bz_E} {L : List Nat} {g : Nat → va_E} {a : Nat} (hH : bz_H L g a [.inr (2, [.null, .null, .int 0])]) : bz_KI l E mX2_init 1 2 356 a L g (ci_S L g a 2 (b_Line E a (fun _ => 0) (fun _ => 0) 0)) := by
  refine bz_KI.of (by decide) (by decide) ?_
  have hC : ci_S L g a 0 [.inr (2, [.null, .null, .int 0])] g := ⟨rfl, by rw [bz_pool_0]; exact hH, fun _ _ => rfl⟩
  refine g_aload_n (q := 1) dX2_init_0 rfl rfl ?_
  refine g_objI (q := 4) dX2_init_1 rfl (bz_mw 239 (by decide +kernel)) (by decide) (bz_le rfl) ?_
  refine g_aload_n (q := 5) dX2_init_4 rfl rfl ?_
  refine g_sipush (q := 8) (v := (nI 352)) dX2_init_5 rfl (by decide) ?_
  refine gi_arr (q := 10) (t0 := 1) (ty := .int) (x0 := .inl (fun _ => 0)) hC dX2_init_8 rfl rfl (bz_mw 165 (by decide +kernel)) rfl (fun _ _ h => h) (fun _ => rfl) (by decide) (by decide) (bz_le rfl) (bz_le rfl) (fun g hC => ?_)
  refine gi_putF (q := 13) (i := 0) hC dX2_init_10 rfl fp_X2_11 rfl rfl rfl (bz_le rfl) rfl rfl (fun g hC => ?_)
  refine g_aload_n (q := 14) dX2_init_13 rfl rfl ?_
  refine g_iconst (q := 15) (v := (nI 4)) dX2_init_14 rfl (by decide) ?_
  refine gi_arr (q := 17) (t0 := 1) (ty := .int) (x0 := .inl (fun _ => 0)) hC dX2_init_15 rfl rfl (bz_mw 165 (by decide +kernel)) rfl (fun _ _ h => h) (fun _ => rfl) (by decide) (by decide) (bz_le rfl) (bz_le rfl) (fun g hC => ?_)
  refine gi_putF (q := 20) (i := 0) hC dX2_init_17 rfl fp_X2_15 rfl rfl rfl (bz_le rfl) rfl rfl (fun g hC => ?_)
  exact gi_ret dX2_init_20 rfl rfl rfl hC
set_option maxRecDepth 20000 in
set_option maxHeartbeats 2000000 in
theorem ci_X7 {l : Launch} {E : bz_E} {L : List Nat} {g : Nat → va_E} {a : Nat} (hH : bz_H L g a [.inr (7, [.null, .null, .null, .null])]) : bz_KI l E mX7_init 1 4 56 a L g (ci_S L g a 4 (b_Tags E a (fun _ => 0) (fun _ => 0) (fun _ => 0) (fun _ => 0))) := by
  refine bz_KI.of (by decide) (by decide) ?_
  have hC : ci_S L g a 0 [.inr (7, [.null, .null, .null, .null])] g := ⟨rfl, by rw [bz_pool_0]; exact hH, fun _ _ => rfl⟩
  refine g_aload_n (q := 1) dX7_init_0 rfl rfl ?_
  refine g_objI (q := 4) dX7_init_1 rfl (bz_mw 258 (by decide +kernel)) (by decide) (bz_le rfl) ?_
  refine g_aload_n (q := 5) dX7_init_4 rfl rfl ?_
  refine g_bipush (q := 7) (v := (nI 8)) dX7_init_5 rfl (by decide) ?_
  refine gi_arr (q := 9) (t0 := 1) (ty := .int) (x0 := .inl (fun _ => 0)) hC dX7_init_7 rfl rfl (bz_mw 165 (by decide +kernel)) rfl (fun _ _ h => h) (fun _ => rfl) (by decide) (by decide) (bz_le rfl) (bz_le rfl) (fun g hC => ?_)
  refine gi_putF (q := 12) (i := 0) hC dX7_init_9 rfl fp_X7_9 rfl rfl rfl (bz_le rfl) rfl rfl (fun g hC => ?_)
  refine g_aload_n (q := 13) dX7_init_12 rfl rfl ?_
  refine g_bipush (q := 15) (v := (nI 8)) dX7_init_13 rfl (by decide) ?_
  refine gi_arr (q := 17) (t0 := 1) (ty := .int) (x0 := .inl (fun _ => 0)) hC dX7_init_15 rfl rfl (bz_mw 165 (by decide +kernel)) rfl (fun _ _ h => h) (fun _ => rfl) (by decide) (by decide) (bz_le rfl) (bz_le rfl) (fun g hC => ?_)
  refine gi_putF (q := 20) (i := 0) hC dX7_init_17 rfl fp_X7_15 rfl rfl rfl (bz_le rfl) rfl rfl (fun g hC => ?_)
  refine g_aload_n (q := 21) dX7_init_20 rfl rfl ?_
  refine g_bipush (q := 23) (v := (nI 8)) dX7_init_21 rfl (by decide) ?_
  refine gi_arr (q := 25) (t0 := 1) (ty := .int) (x0 := .inl (fun _ => 0)) hC dX7_init_23 rfl rfl (bz_mw 165 (by decide +kernel)) rfl (fun _ _ h => h) (fun _ => rfl) (by decide) (by decide) (bz_le rfl) (bz_le rfl) (fun g hC => ?_)
  refine gi_putF (q := 28) (i := 0) hC dX7_init_25 rfl fp_X7_18 rfl rfl rfl (bz_le rfl) rfl rfl (fun g hC => ?_)
  refine g_aload_n (q := 29) dX7_init_28 rfl rfl ?_
  refine g_bipush (q := 31) (v := (nI 32)) dX7_init_29 rfl (by decide) ?_
  refine gi_arr (q := 33) (t0 := 1) (ty := .int) (x0 := .inl (fun _ => 0)) hC dX7_init_31 rfl rfl (bz_mw 165 (by decide +kernel)) rfl (fun _ _ h => h) (fun _ => rfl) (by decide) (by decide) (bz_le rfl) (bz_le rfl) (fun g hC => ?_)
  refine gi_putF (q := 36) (i := 0) hC dX7_init_33 rfl fp_X7_21 rfl rfl rfl (bz_le rfl) rfl rfl (fun g hC => ?_)
  exact gi_ret dX7_init_36 rfl rfl rfl hC
set_option maxRecDepth 20000 in
set_option maxHeartbeats 2000000 in
theorem ci_X4 {l : Launch} {E : bz_E} {L : List Nat} {g : Nat → va_E} {a : Nat} (hH : bz_H L g a [.inr (4, [.null, .null, .null, .null, .int 0, .int 0, .int 0])]) : bz_KI l E mX4_init 2 12 794 a L g (ci_S L g a 12 (b_Port E a (fun _ => 0) (fun _ => 0) 0 (fun _ => 0) (fun _ => 0) 0 (fun _ => 0) (fun _ => 0) (fun _ => 0) (fun _ => 0) (fun _ => 0) 0 0 0)) := by
  refine bz_KI.of (by decide) (by decide) ?_
  have hC : ci_S L g a 0 [.inr (4, [.null, .null, .null, .null, .int 0, .int 0, .int 0])] g := ⟨rfl, by rw [bz_pool_0]; exact hH, fun _ _ => rfl⟩
  refine g_aload_n (q := 1) dX4_init_0 rfl rfl ?_
  refine g_objI (q := 4) dX4_init_1 rfl (bz_mw 233 (by decide +kernel)) (by decide) (bz_le rfl) ?_
  refine g_aload_n (q := 5) dX4_init_4 rfl rfl ?_
  refine gi_new (q := 8) (ci := 2) (fs := [.null, .null, .int 0]) hC dX4_init_5 rfl rfl inX2 tyX2_ok (bz_mw 234 (by decide +kernel)) (bz_mw 235 (by decide +kernel)) (bz_mw 89 (by decide +kernel)) (fun j hj => by rcases (show j = 0 ∨ j = 1 ∨ j = 2 by omega) with rfl | rfl | rfl <;> rfl) (bz_le rfl) (bz_le rfl) (fun g hC => ?_)
  refine g_dup (q := 9) dX4_init_8 rfl rfl ?_
  refine gi_sub (q := 12) (mc2 := 2) (ms2 := 356) hC dX4_init_9 rfl ⟨kd_X2_init, Or.inr (by decide +kernel), (bz_mw 237 (by decide +kernel)), rfl, rfl⟩ (ci_X2 (ci_last hC)) (by decide) (by decide) rfl (bz_le rfl) (bz_le rfl) (bz_le rfl) (fun g hC => ?_)
  refine gi_putF (q := 15) (i := 0) hC dX4_init_12 rfl fp_X4_12 rfl rfl rfl (bz_le rfl) rfl rfl (fun g hC => ?_)
  refine g_aload_n (q := 16) dX4_init_15 rfl rfl ?_
  refine gi_new (q := 19) (ci := 2) (fs := [.null, .null, .int 0]) hC dX4_init_16 rfl rfl inX2 tyX2_ok (bz_mw 234 (by decide +kernel)) (bz_mw 235 (by decide +kernel)) (bz_mw 89 (by decide +kernel)) (fun j hj => by rcases (show j = 0 ∨ j = 1 ∨ j = 2 by omega) with rfl | rfl | rfl <;> rfl) (bz_le rfl) (bz_le rfl) (fun g hC => ?_)
  refine g_dup (q := 20) dX4_init_19 rfl rfl ?_
  refine gi_sub (q := 23) (mc2 := 2) (ms2 := 356) hC dX4_init_20 rfl ⟨kd_X2_init, Or.inr (by decide +kernel), (bz_mw 237 (by decide +kernel)), rfl, rfl⟩ (ci_X2 (ci_last hC)) (by decide) (by decide) rfl (bz_le rfl) (bz_le rfl) (bz_le rfl) (fun g hC => ?_)
  refine gi_putF (q := 26) (i := 0) hC dX4_init_23 rfl fp_X4_18 rfl rfl rfl (bz_le rfl) rfl rfl (fun g hC => ?_)
  refine g_aload_n (q := 27) dX4_init_26 rfl rfl ?_
  refine gi_new (q := 30) (ci := 7) (fs := [.null, .null, .null, .null]) hC dX4_init_27 rfl rfl inX7 tyX7_ok (bz_mw 253 (by decide +kernel)) (bz_mw 254 (by decide +kernel)) (bz_mw 90 (by decide +kernel)) (fun j hj => by rcases (show j = 0 ∨ j = 1 ∨ j = 2 ∨ j = 3 by omega) with rfl | rfl | rfl | rfl <;> rfl) (bz_le rfl) (bz_le rfl) (fun g hC => ?_)
  refine g_dup (q := 31) dX4_init_30 rfl rfl ?_
  refine gi_sub (q := 34) (mc2 := 4) (ms2 := 56) hC dX4_init_31 rfl ⟨kd_X7_init, Or.inr (by decide +kernel), (bz_mw 256 (by decide +kernel)), rfl, rfl⟩ (ci_X7 (ci_last hC)) (by decide) (by decide) rfl (bz_le rfl) (bz_le rfl) (bz_le rfl) (fun g hC => ?_)
  refine gi_putF (q := 37) (i := 0) hC dX4_init_34 rfl fp_X4_24 rfl rfl rfl (bz_le rfl) rfl rfl (fun g hC => ?_)
  refine g_aload_n (q := 38) dX4_init_37 rfl rfl ?_
  refine g_bipush (q := 40) (v := (nI 16)) dX4_init_38 rfl (by decide) ?_
  refine gi_arr (q := 42) (t0 := 1) (ty := .int) (x0 := .inl (fun _ => 0)) hC dX4_init_40 rfl rfl (bz_mw 165 (by decide +kernel)) rfl (fun _ _ h => h) (fun _ => rfl) (by decide) (by decide) (bz_le rfl) (bz_le rfl) (fun g hC => ?_)
  refine gi_putF (q := 45) (i := 0) hC dX4_init_42 rfl fp_X4_28 rfl rfl rfl (bz_le rfl) rfl rfl (fun g hC => ?_)
  exact gi_ret dX4_init_45 rfl rfl rfl hC
def ci_PR : PR := ((fun _ => 0), (fun _ => 0), 0, (fun _ => 0), (fun _ => 0), 0, (fun _ => 0), (fun _ => 0), (fun _ => 0), (fun _ => 0), (fun _ => 0), 0, 0, 0)
def ci_SR : SR := (0, 0, ci_PR, ci_PR)
set_option maxRecDepth 20000 in
set_option maxHeartbeats 2000000 in
theorem ci_X5 {l : Launch} {E : bz_E} {L : List Nat} {g : Nat → va_E} {a : Nat} (hH : bz_H L g a [.inr (5, [.int 0, .int 0, .null, .null])]) : bz_KI l E mX5_init 3 26 1602 a L g (ci_S L g a 26 (b_Sit E a ci_SR)) := by
  refine bz_KI.of (by decide) (by decide) ?_
  have hC : ci_S L g a 0 [.inr (5, [.int 0, .int 0, .null, .null])] g := ⟨rfl, by rw [bz_pool_0]; exact hH, fun _ _ => rfl⟩
  refine g_aload_n (q := 1) dX5_init_0 rfl rfl ?_
  refine g_objI (q := 4) dX5_init_1 rfl (bz_mw 227 (by decide +kernel)) (by decide) (bz_le rfl) ?_
  refine g_aload_n (q := 5) dX5_init_4 rfl rfl ?_
  refine gi_new (q := 8) (ci := 4) (fs := [.null, .null, .null, .null, .int 0, .int 0, .int 0]) hC dX5_init_5 rfl rfl inX4 tyX4_ok (bz_mw 228 (by decide +kernel)) (bz_mw 229 (by decide +kernel)) (bz_mw 88 (by decide +kernel)) (fun j hj => by rcases (show j = 0 ∨ j = 1 ∨ j = 2 ∨ j = 3 ∨ j = 4 ∨ j = 5 ∨ j = 6 by omega) with rfl | rfl | rfl | rfl | rfl | rfl | rfl <;> rfl) (bz_le rfl) (bz_le rfl) (fun g hC => ?_)
  refine g_dup (q := 9) dX5_init_8 rfl rfl ?_
  refine gi_sub (q := 12) (mc2 := 12) (ms2 := 794) hC dX5_init_9 rfl ⟨kd_X4_init, Or.inr (by decide +kernel), (bz_mw 231 (by decide +kernel)), rfl, rfl⟩ (ci_X4 (ci_last hC)) (by decide) (by decide) rfl (bz_le rfl) (bz_le rfl) (bz_le rfl) (fun g hC => ?_)
  refine gi_putF (q := 15) (i := 0) hC dX5_init_12 rfl fp_X5_12 rfl rfl rfl (bz_le rfl) rfl rfl (fun g hC => ?_)
  refine g_aload_n (q := 16) dX5_init_15 rfl rfl ?_
  refine gi_new (q := 19) (ci := 4) (fs := [.null, .null, .null, .null, .int 0, .int 0, .int 0]) hC dX5_init_16 rfl rfl inX4 tyX4_ok (bz_mw 228 (by decide +kernel)) (bz_mw 229 (by decide +kernel)) (bz_mw 88 (by decide +kernel)) (fun j hj => by rcases (show j = 0 ∨ j = 1 ∨ j = 2 ∨ j = 3 ∨ j = 4 ∨ j = 5 ∨ j = 6 by omega) with rfl | rfl | rfl | rfl | rfl | rfl | rfl <;> rfl) (bz_le rfl) (bz_le rfl) (fun g hC => ?_)
  refine g_dup (q := 20) dX5_init_19 rfl rfl ?_
  refine gi_sub (q := 23) (mc2 := 12) (ms2 := 794) hC dX5_init_20 rfl ⟨kd_X4_init, Or.inr (by decide +kernel), (bz_mw 231 (by decide +kernel)), rfl, rfl⟩ (ci_X4 (ci_last hC)) (by decide) (by decide) rfl (bz_le rfl) (bz_le rfl) (bz_le rfl) (fun g hC => ?_)
  refine gi_putF (q := 26) (i := 0) hC dX5_init_23 rfl fp_X5_18 rfl rfl rfl (bz_le rfl) rfl rfl (fun g hC => ?_)
  exact gi_ret dX5_init_26 rfl rfl rfl hC
set_option maxRecDepth 20000 in
set_option maxHeartbeats 2000000 in
theorem ci_X3 {l : Launch} {E : bz_E} {L : List Nat} {g : Nat → va_E} {a : Nat} (hH : bz_H L g a [.inr (3, [.null, .null, .null, .null, .null, .null, .int 0, .int 0])]) : bz_KI l E mX3_init 2 10 1302 a L g (ci_S L g a 10 (b_Plan E a (fun _ => 0) (fun _ => 0) (fun _ => 0) (fun _ => 0) (fun _ => 0) (fun _ => 0) 0 (fun _ => 0) (fun _ => 0) 0 0 0)) := by
  refine bz_KI.of (by decide) (by decide) ?_
  have hC : ci_S L g a 0 [.inr (3, [.null, .null, .null, .null, .null, .null, .int 0, .int 0])] g := ⟨rfl, by rw [bz_pool_0]; exact hH, fun _ _ => rfl⟩
  refine g_aload_n (q := 1) dX3_init_0 rfl rfl ?_
  refine g_objI (q := 4) dX3_init_1 rfl (bz_mw 171 (by decide +kernel)) (by decide) (bz_le rfl) ?_
  refine g_aload_n (q := 5) dX3_init_4 rfl rfl ?_
  refine g_bipush (q := 7) (v := (nI 8)) dX3_init_5 rfl (by decide) ?_
  refine gi_arr (q := 9) (t0 := 1) (ty := .int) (x0 := .inl (fun _ => 0)) hC dX3_init_7 rfl rfl (bz_mw 165 (by decide +kernel)) rfl (fun _ _ h => h) (fun _ => rfl) (by decide) (by decide) (bz_le rfl) (bz_le rfl) (fun g hC => ?_)
  refine gi_putF (q := 12) (i := 0) hC dX3_init_9 rfl fp_X3_9 rfl rfl rfl (bz_le rfl) rfl rfl (fun g hC => ?_)
  refine g_aload_n (q := 13) dX3_init_12 rfl rfl ?_
  refine g_bipush (q := 15) (v := (nI 8)) dX3_init_13 rfl (by decide) ?_
  refine gi_arr (q := 17) (t0 := 1) (ty := .int) (x0 := .inl (fun _ => 0)) hC dX3_init_15 rfl rfl (bz_mw 165 (by decide +kernel)) rfl (fun _ _ h => h) (fun _ => rfl) (by decide) (by decide) (bz_le rfl) (bz_le rfl) (fun g hC => ?_)
  refine gi_putF (q := 20) (i := 0) hC dX3_init_17 rfl fp_X3_15 rfl rfl rfl (bz_le rfl) rfl rfl (fun g hC => ?_)
  refine g_aload_n (q := 21) dX3_init_20 rfl rfl ?_
  refine g_bipush (q := 23) (v := (nI 16)) dX3_init_21 rfl (by decide) ?_
  refine gi_arr (q := 25) (t0 := 1) (ty := .int) (x0 := .inl (fun _ => 0)) hC dX3_init_23 rfl rfl (bz_mw 165 (by decide +kernel)) rfl (fun _ _ h => h) (fun _ => rfl) (by decide) (by decide) (bz_le rfl) (bz_le rfl) (fun g hC => ?_)
  refine gi_putF (q := 28) (i := 0) hC dX3_init_25 rfl fp_X3_18 rfl rfl rfl (bz_le rfl) rfl rfl (fun g hC => ?_)
  refine g_aload_n (q := 29) dX3_init_28 rfl rfl ?_
  refine g_bipush (q := 31) (v := (nI 32)) dX3_init_29 rfl (by decide) ?_
  refine gi_arr (q := 33) (t0 := 1) (ty := .int) (x0 := .inl (fun _ => 0)) hC dX3_init_31 rfl rfl (bz_mw 165 (by decide +kernel)) rfl (fun _ _ h => h) (fun _ => rfl) (by decide) (by decide) (bz_le rfl) (bz_le rfl) (fun g hC => ?_)
  refine gi_putF (q := 36) (i := 0) hC dX3_init_33 rfl fp_X3_21 rfl rfl rfl (bz_le rfl) rfl rfl (fun g hC => ?_)
  refine g_aload_n (q := 37) dX3_init_36 rfl rfl ?_
  refine gi_new (q := 40) (ci := 6) (fs := [.null, .null, .int 0]) hC dX3_init_37 rfl rfl inX6 tyX6_ok (bz_mw 172 (by decide +kernel)) (bz_mw 173 (by decide +kernel)) (bz_mw 86 (by decide +kernel)) (fun j hj => by rcases (show j = 0 ∨ j = 1 ∨ j = 2 by omega) with rfl | rfl | rfl <;> rfl) (bz_le rfl) (bz_le rfl) (fun g hC => ?_)
  refine g_dup (q := 41) dX3_init_40 rfl rfl ?_
  refine gi_sub (q := 44) (mc2 := 2) (ms2 := 616) hC dX3_init_41 rfl ⟨kd_X6_init, Or.inr (by decide +kernel), (bz_mw 175 (by decide +kernel)), rfl, rfl⟩ (ci_X6 (ci_last hC)) (by decide) (by decide) rfl (bz_le rfl) (bz_le rfl) (bz_le rfl) (fun g hC => ?_)
  refine gi_putF (q := 47) (i := 0) hC dX3_init_44 rfl fp_X3_27 rfl rfl rfl (bz_le rfl) rfl rfl (fun g hC => ?_)
  refine g_aload_n (q := 48) dX3_init_47 rfl rfl ?_
  refine gi_new (q := 51) (ci := 6) (fs := [.null, .null, .int 0]) hC dX3_init_48 rfl rfl inX6 tyX6_ok (bz_mw 172 (by decide +kernel)) (bz_mw 173 (by decide +kernel)) (bz_mw 86 (by decide +kernel)) (fun j hj => by rcases (show j = 0 ∨ j = 1 ∨ j = 2 by omega) with rfl | rfl | rfl <;> rfl) (bz_le rfl) (bz_le rfl) (fun g hC => ?_)
  refine g_dup (q := 52) dX3_init_51 rfl rfl ?_
  refine gi_sub (q := 55) (mc2 := 2) (ms2 := 616) hC dX3_init_52 rfl ⟨kd_X6_init, Or.inr (by decide +kernel), (bz_mw 175 (by decide +kernel)), rfl, rfl⟩ (ci_X6 (ci_last hC)) (by decide) (by decide) rfl (bz_le rfl) (bz_le rfl) (bz_le rfl) (fun g hC => ?_)
  refine gi_putF (q := 58) (i := 0) hC dX3_init_55 rfl fp_X3_31 rfl rfl rfl (bz_le rfl) rfl rfl (fun g hC => ?_)
  exact gi_ret dX3_init_58 rfl rfl rfl hC
set_option maxRecDepth 20000 in
set_option maxHeartbeats 2000000 in
theorem ci_X0 {l : Launch} {E : bz_E} {L : List Nat} {g : Nat → va_E} {a : Nat} (hH : bz_H L g a [.inr (0, [.null, .int 0, .int 0, .int 0, .int 0, .int 0, .int 0, .int 0, .int 0, .int 0, .null, .int 0, .int 0])]) : bz_KI l E mX0_init 1 2 24 a L g (ci_S L g a 2 ([.inr (0, [.ref (a + 1), .int 0, .int 0, .int 0, .int 0, .int 0, .int 0, .int 0, .int 0, .int 0, .ref (a + 2), .int 0, .int 0]), .inl (E.1.1 20, 0, .inl (fun _ => 0)), .inl (E.1.1 21, 24, .inl (fun _ => 0))])) := by
  refine bz_KI.of (by decide) (by decide) ?_
  have hC : ci_S L g a 0 [.inr (0, [.null, .int 0, .int 0, .int 0, .int 0, .int 0, .int 0, .int 0, .int 0, .int 0, .null, .int 0, .int 0])] g := ⟨rfl, by rw [bz_pool_0]; exact hH, fun _ _ => rfl⟩
  refine g_aload_n (q := 1) dX0_init_0 rfl rfl ?_
  refine g_objI (q := 4) dX0_init_1 rfl (bz_mw 122 (by decide +kernel)) (by decide) (bz_le rfl) ?_
  refine g_aload_n (q := 5) dX0_init_4 rfl rfl ?_
  refine g_iconst (q := 6) (v := (nI 0)) dX0_init_5 rfl (by decide) ?_
  refine gi_arr (q := 8) (t0 := 0) (ty := .byte) (x0 := .inl (fun _ => 0)) hC dX0_init_6 rfl rfl (bz_mw 164 (by decide +kernel)) rfl (fun _ _ h => h) (fun _ => rfl) (by decide) (by decide) (bz_le rfl) (bz_le rfl) (fun g hC => ?_)
  refine gi_putf (q := 11) (i := 0) hC dX0_init_8 rfl fp_X0_9 rfl rfl (bz_le rfl) rfl rfl (fun g hC => ?_)
  refine g_aload_n (q := 12) dX0_init_11 rfl rfl ?_
  refine g_bipush (q := 14) (v := (nI 24)) dX0_init_12 rfl (by decide) ?_
  refine gi_arr (q := 16) (t0 := 1) (ty := .int) (x0 := .inl (fun _ => 0)) hC dX0_init_14 rfl rfl (bz_mw 165 (by decide +kernel)) rfl (fun _ _ h => h) (fun _ => rfl) (by decide) (by decide) (bz_le rfl) (bz_le rfl) (fun g hC => ?_)
  refine gi_putF (q := 19) (i := 0) hC dX0_init_16 rfl fp_X0_15 rfl rfl rfl (bz_le rfl) rfl rfl (fun g hC => ?_)
  exact gi_ret dX0_init_19 rfl rfl rfl hC
