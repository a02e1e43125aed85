/-! CONSTRUCTORS: the class, the reference -/
theorem ci_S.fl {L : List Nat} {g0 g : Nat → va_E} {a n : Nat} {x : va_E} {ess : List (List va_E)} {es2 : List va_E} (h : ci_S L g0 a n ((x :: ess.flatten) ++ es2) g) : ci_S L g0 a n (x :: (ess ++ [es2]).flatten) g := by
  rw [List.flatten_append, List.flatten_cons, List.flatten_nil, List.append_nil]
  exact h
theorem ci_S.st {L : List Nat} {g0 g : Nat → va_E} {a n : Nat} {x y : va_E} {r : List va_E} (h : ci_S L g0 a n ((x :: r).set 0 y) g) : ci_S L g0 a n (y :: r) g := h
def w_ws (D : Pl) (s : Si) : Prop := ∃ m0 m1 : Nat → Int32, s = s_00 m0 m1 ∧ (∀ i, i < 16 → m0 i = nI (D.2.2.2.1 i)) ∧ ∀ i, i < 16 → m1 i = nI (D.2.2.2.1 (16 + i))
abbrev w_dp (r : PLR) : PLR := (v_fill r.1 (nI 4) 8, v_fill r.2.1 (nI 2) 8, v_lp (v_lp (v_lp (v_lp (v_fill r.2.2.1 (nI 0) 16) 0 1 (3 + 1)) 1 1 (2 + 1)) 2 1 (2 + 1)) 3 1 (3 + 1), v_fill r.2.2.2.1 (nI 0) 32, r.2.2.2.2.1, upd r.2.2.2.2.2.1 0 (nI 1), nI (0 + 1), r.2.2.2.2.2.2.2.1, upd r.2.2.2.2.2.2.2.2.1 0 (nI 1), nI (0 + 1), nI 2, nI 4)
abbrev w_go (r : SR) (p : PLR) : SR := (nI 0, r.2.1, s_st0 r.2.2.1 (fun j => p.2.2.2.1 (0 * 16 + j)), s_st0 r.2.2.2 (fun j => p.2.2.2.1 (1 * 16 + j)))
def w_gs (r : SR) (p : PLR) : Si := s_00 (v_ms (s_m r.2.2.1) (fun j => p.2.2.2.1 (0 * 16 + j)) 16) (v_ms (s_m r.2.2.2) (fun j => p.2.2.2.1 (1 * 16 + j)) 16)
theorem w_go_rep (r : SR) (p : PLR) : s_srep (w_go r p) (w_gs r p) := ⟨rfl, s_st0_rep _ _, s_st0_rep _ _⟩
theorem w_go_ws {r : SR} {p : PLR} {D : Pl} (h : d_rep p D) : w_ws D (w_gs r p) := by
  refine ⟨_, _, rfl, fun i hi => ?_, fun i hi => ?_⟩
  · unfold v_ms
    rw [if_pos hi]
    show p.2.2.2.1 (0 * 16 + i) = _
    rw [show 0 * 16 + i = i by omega]
    exact h.2.2.2.1 i (by omega)
  · unfold v_ms
    rw [if_pos hi]
    show p.2.2.2.1 (1 * 16 + i) = _
    rw [show 1 * 16 + i = 16 + i by omega]
    exact h.2.2.2.1 (16 + i) (by omega)
theorem w_dp_rep (r : PLR) : d_rep (w_dp r) d_0 := d_def_rep
abbrev w_A0 (s : Si) : WA := ((fun _ => 0), 0, -1, d_0, s, [], none, none)
def w_Q0 (E : bz_E) (L : List Nat) (g : Nat → va_E) (a : Nat) (g1 : Nat → va_E) : Prop := (∃ s : Si, w_ws d_0 s ∧ w_X E (bz_pool L a 406) g1 a (w_A0 s)) ∧ ∀ x, x < a → g1 x = g x
set_option maxRecDepth 20000 in
set_option maxHeartbeats 2000000 in
theorem ci_X8_106 {l : Launch} {E : bz_E} {L : List Nat} {g0 g : Nat → va_E} {a : Nat} {s9 : Si} {T : List va_E} {rp rq : PLR} {rS rF r0 r1 : SR} {rB : Nat → SR} (hT : w_T E a T) (hlow : ∀ x, x < a → g x = g0 x) (hW : bz_W (bz_pool L a 406) g (w_bs E a (w_A0 s9) (a + 5, a + 16, T, rp, rq, rS, rF, 0, rB, r0, r1))) : bz_G l E mX8_init (bz_R 5 406 25754) L (a + 1) (bz_FmI E L a 406 25754 (w_Q0 E L g0 a)) (a + 1 + 406) 406 25754 (bz_pool L a 406) g 106 [(0, .ref a)] [] := by
  have hB := bz_B.rf hW
  refine g_aload_n (q := 107) dX8_init_106 rfl rfl ?_
  refine gb_getf (q := 110) (j := 0) (i := 0) dX8_init_107 rfl fl_X8_23 hB rfl rfl rfl rfl ?_
  refine gb_callV (q := 113) (j := 3) (i := 0) dX8_init_110 rfl kv_X8_57 (c_setDefaults (hB.1.at (j := 3) rfl)) rfl (by decide) hB rfl rfl rfl rfl (bz_le rfl) (bz_le rfl) (bz_le rfl) (fun r g1 hQ => ?_)
  obtain ⟨rfl, h1⟩ := hQ
  have hB : bz_B _ _ _ (w_bs E a (w_A0 s9) (a + 5, a + 16, T, w_dp rp, rq, rS, rF, 0, rB, r0, r1)) := w_B1 (j := 3) hB rfl h1 rfl
  refine g_aload_n (q := 114) dX8_init_113 rfl rfl ?_
  refine gb_getf (q := 117) (j := 0) (i := 0) dX8_init_114 rfl fl_X8_33 hB rfl rfl rfl rfl ?_
  refine g_aload_n (q := 118) dX8_init_117 rfl rfl ?_
  refine gb_getf (q := 121) (j := 0) (i := 0) dX8_init_118 rfl fl_X8_23 hB rfl rfl rfl rfl ?_
  refine gb_callV (q := 124) (j := 5) (i := 0) dX8_init_121 rfl kv_X8_60 (c_sstart (r0 := rS) (hB.1.at (j := 5) rfl) (hB.1.at (j := 3) rfl) (Or.inr (show a + 5 + 11 ≤ a + 27 by omega))) rfl (by decide) hB rfl rfl rfl rfl (bz_le rfl) (bz_le rfl) (bz_le rfl) (fun r g1 hQ => ?_)
  obtain ⟨rfl, h1⟩ := hQ
  have hB : bz_B _ _ _ (w_bs E a (w_A0 (w_gs rS (w_dp rp))) (a + 5, a + 16, T, w_dp rp, rq, w_go rS (w_dp rp), rF, 0, rB, r0, r1)) := w_B1 (j := 5) hB rfl h1 rfl
  have hk : w_ok E a (w_A0 (w_gs rS (w_dp rp))) (a + 5, a + 16, T, w_dp rp, rq, w_go rS (w_dp rp), rF, 0, rB, r0, r1) := by
    refine ⟨bz_le rfl, fun _ => bz_le rfl, Or.inl ⟨rfl, rfl⟩, hT, w_dp_rep rp, w_go_rep rS (w_dp rp), bz_le rfl, bz_le rfl, fun i τ h => ?_, fun τ h => ?_, fun τ h => ?_⟩
    · exact absurd h (by show ¬ (([] : List Si)[i]? = some τ); simp)
    · cases h
    · cases h
  refine gi_ret dX8_init_124 rfl rfl rfl ⟨⟨_, w_go_ws (w_dp_rep rp), _, hB.1, hk⟩, fun x hx => ?_⟩
  exact (w_fr hk hB.2 x (fun r hr hc => by rw [List.mem_singleton.mp hr] at hc; dsimp only at hc; omega)).trans (hlow x hx)

abbrev ci_PL : PLR := ((fun _ => 0), (fun _ => 0), (fun _ => 0), (fun _ => 0), (fun _ => 0), (fun _ => 0), 0, (fun _ => 0), (fun _ => 0), 0, 0, 0)
abbrev ci_T (E : bz_E) (a : Nat) : List va_E := b_T E (a + 2) (a + 3) 0 0 0 0 0 0 0 0 0 (fun _ => 0) (fun _ => 0) 0 0
abbrev ci_S10 (E : bz_E) (a : Nat) : List (List va_E) := [b_Sit E (a + 1 + (1 + 27 * 0)) ci_SR, b_Sit E (a + 1 + (1 + 27 * 1)) ci_SR, b_Sit E (a + 1 + (1 + 27 * 2)) ci_SR, b_Sit E (a + 1 + (1 + 27 * 3)) ci_SR, b_Sit E (a + 1 + (1 + 27 * 4)) ci_SR, b_Sit E (a + 1 + (1 + 27 * 5)) ci_SR, b_Sit E (a + 1 + (1 + 27 * 6)) ci_SR, b_Sit E (a + 1 + (1 + 27 * 7)) ci_SR, b_Sit E (a + 1 + (1 + 27 * 8)) ci_SR, b_Sit E (a + 1 + (1 + 27 * 9)) ci_SR]
abbrev ci_BL (E : bz_E) (a : Nat) : List (List va_E) := [w_obj a (a + 5) (a + 16) 0 (-1) 0 0, b_In E (fun _ => 0), ci_T E a, b_PL E (a + 5) ci_PL, b_PL E (a + 16) ci_PL, b_Sit E (a + 27) ci_SR, b_Sit E (a + 54) ci_SR, b_Hist E (a + 81) (h_f (a + 81) 10) 0 0, b_Sit E (a + 81 + 1 + (1 + 27 * 0)) ci_SR, b_Sit E (a + 81 + 1 + (1 + 27 * 1)) ci_SR, b_Sit E (a + 81 + 1 + (1 + 27 * 2)) ci_SR, b_Sit E (a + 81 + 1 + (1 + 27 * 3)) ci_SR, b_Sit E (a + 81 + 1 + (1 + 27 * 4)) ci_SR, b_Sit E (a + 81 + 1 + (1 + 27 * 5)) ci_SR, b_Sit E (a + 81 + 1 + (1 + 27 * 6)) ci_SR, b_Sit E (a + 81 + 1 + (1 + 27 * 7)) ci_SR, b_Sit E (a + 81 + 1 + (1 + 27 * 8)) ci_SR, b_Sit E (a + 81 + 1 + (1 + 27 * 9)) ci_SR, b_Sit E (a + 353) ci_SR, b_Sit E (a + 380) ci_SR]
abbrev ci_HD (a : Nat) : va_E := .inr (8, [.ref (a + 1), .int 0, .int (-1), .ref (a + 2), .ref (a + 5), .ref (a + 16), .ref (a + 27), .ref (a + 54), .ref (a + 81), .ref (a + 353), .ref (a + 380), .int 0, .int 0])
abbrev ci_BS (E : bz_E) (a : Nat) : List (List va_E) := [[.inl (E.1.1 20, 600, .inl (fun _ => 0))], ci_T E a, b_PL E (a + 5) ci_PL, b_PL E (a + 16) ci_PL, b_Sit E (a + 27) ci_SR, b_Sit E (a + 54) ci_SR, h_E E (a + 81) 10, b_Sit E (a + 353) ci_SR, b_Sit E (a + 380) ci_SR]
set_option maxRecDepth 20000 in
set_option maxHeartbeats 2000000 in
theorem ci_BL_eq (E : bz_E) (a : Nat) : (ci_BL E a).flatten = ci_HD a :: List.flatten (ci_BS E a) := by
  show [ci_HD a] ++ ([_] ++ (_ ++ (_ ++ (_ ++ (_ ++ (_ ++ (b_Hist E (a + 81) (h_f (a + 81) 10) 0 0 ++ (_ ++ (_ ++ (_ ++ (_ ++ (_ ++ (_ ++ (_ ++ (_ ++ (_ ++ (_ ++ (_ ++ (_ ++ []))))))))))))))))))) = [ci_HD a] ++ ([_] ++ (_ ++ (_ ++ (_ ++ (_ ++ (_ ++ ((b_Hist E (a + 81) (h_f (a + 81) 10) 0 0 ++ ((((((((((([] ++ _) ++ _) ++ _) ++ _) ++ _) ++ _) ++ _) ++ _) ++ _) ++ _))) ++ (_ ++ (_ ++ []))))))))) 
  simp only [List.append_assoc, List.nil_append]
  rfl
set_option maxRecDepth 20000 in
set_option maxHeartbeats 2000000 in
theorem ci_BL_W {E : bz_E} {L : List Nat} {g : Nat → va_E} {a : Nat} (h : bz_H L g a (ci_BL E a).flatten) : bz_W L g (w_bs E a (w_A0 (s_00 (fun _ => 0) (fun _ => 0))) (a + 5, a + 16, ci_T E a, ci_PL, ci_PL, ci_SR, ci_SR, 0, (fun _ => ci_SR), ci_SR, ci_SR)) := bz_row_W (ci_BL E a) a h

set_option maxRecDepth 20000 in
set_option maxHeartbeats 2000000 in
theorem ci_X8 {l : Launch} {E : bz_E} {L : List Nat} {g : Nat → va_E} {a : Nat} (hH : bz_H L g a [.inr (8, [.null, .int 0, .int 0, .null, .null, .null, .null, .null, .null, .null, .null, .int 0, .int 0])]) : bz_KI l E mX8_init 5 406 25754 a L g (w_Q0 E L g a) := by
  refine bz_KI.of (by decide) (by decide) ?_
  have hC : ci_S L g a 0 (.inr (8, [.null, .int 0, .int 0, .null, .null, .null, .null, .null, .null, .null, .null, .int 0, .int 0]) :: List.flatten []) g := ⟨rfl, by rw [bz_pool_0]; exact hH, fun _ _ => rfl⟩
  refine g_aload_n (q := 1) dX8_init_0 rfl rfl ?_
  refine g_objI (q := 4) dX8_init_1 rfl (bz_mw 114 (by decide +kernel)) (by decide) (bz_le rfl) ?_
  refine g_aload_n (q := 5) dX8_init_4 rfl rfl ?_
  refine g_sipush (q := 8) (v := (nI 600)) dX8_init_5 rfl (by decide) ?_
  refine gi_arr (q := 10) (t0 := 0) (ty := .byte) (x0 := .inl (fun _ => 0)) hC dX8_init_8 rfl rfl (bz_mw 164 (by decide +kernel)) rfl (fun _ _ h => h) (fun _ => rfl) (by decide) (by decide) (bz_le rfl) (bz_le rfl) (fun g hC => ?_)
  have hC := ci_S.fl hC
  refine gi_putF (q := 13) (i := 0) hC dX8_init_10 rfl fp_X8_9 rfl rfl rfl (bz_le rfl) rfl rfl (fun g hC => ?_)
  have hC := ci_S.st hC
  refine g_aload_n (q := 14) dX8_init_13 rfl rfl ?_
  refine gi_new (q := 17) (ci := 0) (fs := [.null, .int 0, .int 0, .int 0, .int 0, .int 0, .int 0, .int 0, .int 0, .int 0, .null, .int 0, .int 0]) hC dX8_init_14 rfl rfl inX0 tyX0_ok (bz_mw 117 (by decide +kernel)) (bz_mw 118 (by decide +kernel)) (bz_mw 84 (by decide +kernel)) (fun j hj => by rcases (show j = 0 ∨ j = 1 ∨ j = 2 ∨ j = 3 ∨ j = 4 ∨ j = 5 ∨ j = 6 ∨ j = 7 ∨ j = 8 ∨ j = 9 ∨ j = 10 ∨ j = 11 ∨ j = 12 by omega) with rfl | rfl | rfl | rfl | rfl | rfl | rfl | rfl | rfl | rfl | rfl | rfl | rfl <;> rfl) (bz_le rfl) (bz_le rfl) (fun g hC => ?_)
  refine g_dup (q := 18) dX8_init_17 rfl rfl ?_
  refine gi_sub (q := 21) (mc2 := 2) (ms2 := 24) hC dX8_init_18 rfl ⟨kd_X0_init, Or.inr (by decide +kernel), (bz_mw 120 (by decide +kernel)), rfl, rfl⟩ (ci_X0 (ci_last hC)) (by decide) (by decide) rfl (bz_le rfl) (bz_le rfl) (bz_le rfl) (fun g hC => ?_)
  have hC := ci_S.fl hC
  refine gi_putF (q := 24) (i := 0) hC dX8_init_21 rfl fp_X8_16 rfl rfl rfl (bz_le rfl) rfl rfl (fun g hC => ?_)
  have hC := ci_S.st hC
  refine g_aload_n (q := 25) dX8_init_24 rfl rfl ?_
  refine gi_new (q := 28) (ci := 3) (fs := [.null, .null, .null, .null, .null, .null, .int 0, .int 0]) hC dX8_init_25 rfl rfl inX3 tyX3_ok (bz_mw 166 (by decide +kernel)) (bz_mw 167 (by decide +kernel)) (bz_mw 85 (by decide +kernel)) (fun j hj => by rcases (show j = 0 ∨ j = 1 ∨ j = 2 ∨ j = 3 ∨ j = 4 ∨ j = 5 ∨ j = 6 ∨ j = 7 by omega) with rfl | rfl | rfl | rfl | rfl | rfl | rfl | rfl <;> rfl) (bz_le rfl) (bz_le rfl) (fun g hC => ?_)
  refine g_dup (q := 29) dX8_init_28 rfl rfl ?_
  refine gi_sub (q := 32) (mc2 := 10) (ms2 := 1302) hC dX8_init_29 rfl ⟨kd_X3_init, Or.inr (by decide +kernel), (bz_mw 169 (by decide +kernel)), rfl, rfl⟩ (ci_X3 (ci_last hC)) (by decide) (by decide) rfl (bz_le rfl) (bz_le rfl) (bz_le rfl) (fun g hC => ?_)
  have hC := ci_S.fl hC
  refine gi_putf (q := 35) (i := 0) hC dX8_init_32 rfl fp_X8_23 rfl rfl (bz_le rfl) rfl rfl (fun g hC => ?_)
  have hC := ci_S.st hC
  refine g_aload_n (q := 36) dX8_init_35 rfl rfl ?_
  refine gi_new (q := 39) (ci := 3) (fs := [.null, .null, .null, .null, .null, .null, .int 0, .int 0]) hC dX8_init_36 rfl rfl inX3 tyX3_ok (bz_mw 166 (by decide +kernel)) (bz_mw 167 (by decide +kernel)) (bz_mw 85 (by decide +kernel)) (fun j hj => by rcases (show j = 0 ∨ j = 1 ∨ j = 2 ∨ j = 3 ∨ j = 4 ∨ j = 5 ∨ j = 6 ∨ j = 7 by omega) with rfl | rfl | rfl | rfl | rfl | rfl | rfl | rfl <;> rfl) (bz_le rfl) (bz_le rfl) (fun g hC => ?_)
  refine g_dup (q := 40) dX8_init_39 rfl rfl ?_
  refine gi_sub (q := 43) (mc2 := 10) (ms2 := 1302) hC dX8_init_40 rfl ⟨kd_X3_init, Or.inr (by decide +kernel), (bz_mw 169 (by decide +kernel)), rfl, rfl⟩ (ci_X3 (ci_last hC)) (by decide) (by decide) rfl (bz_le rfl) (bz_le rfl) (bz_le rfl) (fun g hC => ?_)
  have hC := ci_S.fl hC
  refine gi_putf (q := 46) (i := 0) hC dX8_init_43 rfl fp_X8_27 rfl rfl (bz_le rfl) rfl rfl (fun g hC => ?_)
  have hC := ci_S.st hC
  refine g_aload_n (q := 47) dX8_init_46 rfl rfl ?_
  refine gi_new (q := 50) (ci := 5) (fs := [.int 0, .int 0, .null, .null]) hC dX8_init_47 rfl rfl inX5 tyX5_ok (bz_mw 222 (by decide +kernel)) (bz_mw 223 (by decide +kernel)) (bz_mw 87 (by decide +kernel)) (fun j hj => by rcases (show j = 0 ∨ j = 1 ∨ j = 2 ∨ j = 3 by omega) with rfl | rfl | rfl | rfl <;> rfl) (bz_le rfl) (bz_le rfl) (fun g hC => ?_)
  refine g_dup (q := 51) dX8_init_50 rfl rfl ?_
  refine gi_sub (q := 54) (mc2 := 26) (ms2 := 1602) hC dX8_init_51 rfl ⟨kd_X5_init, Or.inr (by decide +kernel), (bz_mw 225 (by decide +kernel)), rfl, rfl⟩ (ci_X5 (ci_last hC)) (by decide) (by decide) rfl (bz_le rfl) (bz_le rfl) (bz_le rfl) (fun g hC => ?_)
  have hC := ci_S.fl hC
  refine gi_putF (q := 57) (i := 0) hC dX8_init_54 rfl fp_X8_33 rfl rfl rfl (bz_le rfl) rfl rfl (fun g hC => ?_)
  have hC := ci_S.st hC
  refine g_aload_n (q := 58) dX8_init_57 rfl rfl ?_
  refine gi_new (q := 61) (ci := 5) (fs := [.int 0, .int 0, .null, .null]) hC dX8_init_58 rfl rfl inX5 tyX5_ok (bz_mw 222 (by decide +kernel)) (bz_mw 223 (by decide +kernel)) (bz_mw 87 (by decide +kernel)) (fun j hj => by rcases (show j = 0 ∨ j = 1 ∨ j = 2 ∨ j = 3 by omega) with rfl | rfl | rfl | rfl <;> rfl) (bz_le rfl) (bz_le rfl) (fun g hC => ?_)
  refine g_dup (q := 62) dX8_init_61 rfl rfl ?_
  refine gi_sub (q := 65) (mc2 := 26) (ms2 := 1602) hC dX8_init_62 rfl ⟨kd_X5_init, Or.inr (by decide +kernel), (bz_mw 225 (by decide +kernel)), rfl, rfl⟩ (ci_X5 (ci_last hC)) (by decide) (by decide) rfl (bz_le rfl) (bz_le rfl) (bz_le rfl) (fun g hC => ?_)
  have hC := ci_S.fl hC
  refine gi_putF (q := 68) (i := 0) hC dX8_init_65 rfl fp_X8_37 rfl rfl rfl (bz_le rfl) rfl rfl (fun g hC => ?_)
  have hC := ci_S.st hC
  refine g_aload_n (q := 69) dX8_init_68 rfl rfl ?_
  refine gi_new (q := 72) (ci := 1) (fs := [.null, .int 0, .int 0]) hC dX8_init_69 rfl rfl inX1 tyX1_ok (bz_mw 318 (by decide +kernel)) (bz_mw 319 (by decide +kernel)) (bz_mw 91 (by decide +kernel)) (fun j hj => by rcases (show j = 0 ∨ j = 1 ∨ j = 2 by omega) with rfl | rfl | rfl <;> rfl) (bz_le rfl) (bz_le rfl) (fun g hC => ?_)
  refine g_dup (q := 73) dX8_init_72 rfl rfl ?_
  refine gi_sub (q := 76) (mc2 := 271) (ms2 := 16070) hC dX8_init_73 rfl ⟨kd_X1_init, Or.inl (bz_mw 320 (by decide +kernel)), (bz_mw 321 (by decide +kernel)), rfl, rfl⟩ (ci_X1 (ci_last hC)) (by decide) (by decide) rfl (bz_le rfl) (bz_le rfl) (bz_le rfl) (fun g hC => ?_)
  have hC := ci_S.fl hC
  refine gi_putF (q := 79) (i := 0) hC dX8_init_76 rfl fp_X8_43 rfl rfl rfl (bz_le rfl) rfl rfl (fun g hC => ?_)
  have hC := ci_S.st hC
  refine g_aload_n (q := 80) dX8_init_79 rfl rfl ?_
  refine gi_new (q := 83) (ci := 5) (fs := [.int 0, .int 0, .null, .null]) hC dX8_init_80 rfl rfl inX5 tyX5_ok (bz_mw 222 (by decide +kernel)) (bz_mw 223 (by decide +kernel)) (bz_mw 87 (by decide +kernel)) (fun j hj => by rcases (show j = 0 ∨ j = 1 ∨ j = 2 ∨ j = 3 by omega) with rfl | rfl | rfl | rfl <;> rfl) (bz_le rfl) (bz_le rfl) (fun g hC => ?_)
  refine g_dup (q := 84) dX8_init_83 rfl rfl ?_
  refine gi_sub (q := 87) (mc2 := 26) (ms2 := 1602) hC dX8_init_84 rfl ⟨kd_X5_init, Or.inr (by decide +kernel), (bz_mw 225 (by decide +kernel)), rfl, rfl⟩ (ci_X5 (ci_last hC)) (by decide) (by decide) rfl (bz_le rfl) (bz_le rfl) (bz_le rfl) (fun g hC => ?_)
  have hC := ci_S.fl hC
  refine gi_putF (q := 90) (i := 0) hC dX8_init_87 rfl fp_X8_47 rfl rfl rfl (bz_le rfl) rfl rfl (fun g hC => ?_)
  have hC := ci_S.st hC
  refine g_aload_n (q := 91) dX8_init_90 rfl rfl ?_
  refine gi_new (q := 94) (ci := 5) (fs := [.int 0, .int 0, .null, .null]) hC dX8_init_91 rfl rfl inX5 tyX5_ok (bz_mw 222 (by decide +kernel)) (bz_mw 223 (by decide +kernel)) (bz_mw 87 (by decide +kernel)) (fun j hj => by rcases (show j = 0 ∨ j = 1 ∨ j = 2 ∨ j = 3 by omega) with rfl | rfl | rfl | rfl <;> rfl) (bz_le rfl) (bz_le rfl) (fun g hC => ?_)
  refine g_dup (q := 95) dX8_init_94 rfl rfl ?_
  refine gi_sub (q := 98) (mc2 := 26) (ms2 := 1602) hC dX8_init_95 rfl ⟨kd_X5_init, Or.inr (by decide +kernel), (bz_mw 225 (by decide +kernel)), rfl, rfl⟩ (ci_X5 (ci_last hC)) (by decide) (by decide) rfl (bz_le rfl) (bz_le rfl) (bz_le rfl) (fun g hC => ?_)
  have hC := ci_S.fl hC
  refine gi_putF (q := 101) (i := 0) hC dX8_init_98 rfl fp_X8_50 rfl rfl rfl (bz_le rfl) rfl rfl (fun g hC => ?_)
  have hC := ci_S.st hC
  refine g_aload_n (q := 102) dX8_init_101 rfl rfl ?_
  refine g_iconst (q := 103) (v := (-1)) dX8_init_102 rfl (by decide) ?_
  refine gi_putf (q := 106) (i := 0) hC dX8_init_103 rfl fp_X8_53 rfl rfl (bz_le rfl) rfl rfl (fun g hC => ?_)
  have hC := ci_S.st hC
  refine ci_X8_106 ⟨_, _, _, _, _, _, _, _, _, _, _, _, _, _, rfl⟩ hC.2.2 (ci_BL_W ?_)
  have h2 : bz_H (bz_pool L a 406) g a (ci_HD a :: List.flatten (ci_BS E a)) := hC.2.1
  rw [ci_BL_eq]
  exact h2

def w_Q9 (E : bz_E) (L : List Nat) (g : Nat → va_E) (a : Nat) (g1 : Nat → va_E) : Prop := (∃ (I9 : Nat → Int32) (A9 : Nat → Nat → Int32), bz_H (bz_pool L a 15) g1 a (b_Mod E a I9 A9) ∧ I9 0 = nI 0 ∧ I9 10 = nI 0 ∧ I9 17 = -1 ∧ I9 27 = nI 0 ∧ m_pl A9 d_0 ∧ (∀ m0 m1 : Nat → Int32, (∀ i, i < 16 → m0 i = nI (d_0.2.2.2.1 i)) → (∀ i, i < 16 → m1 i = nI (d_0.2.2.2.1 (16 + i))) → m_st (A9 1) (s_00 m0 m1)) ∧ (∀ i, A9 9 i = 0) ∧ A9 15 0 = nI 0 ∧ A9 15 1 = nI 0) ∧ ∀ x, x < a → g1 x = g x
def ci_I9 : Nat → Int32 := fun i => if i = 17 then -1 else 0
def ci_A9 : Nat → Nat → Int32 := fun _ _ => 0
set_option maxRecDepth 20000 in
set_option maxHeartbeats 2000000 in
theorem ci_X9_131 {l : Launch} {E : bz_E} {L : List Nat} {g0 g : Nat → va_E} {a : Nat} (hlow : ∀ x, x < a → g x = g0 x) (hH : bz_H (bz_pool L a 15) g a (b_Mod E a ci_I9 ci_A9)) : bz_G l E mX9_init (bz_R 2 15 32313) L (a + 1) (bz_FmI E L a 15 32313 (w_Q9 E L g0 a)) (a + 1 + 15) 15 32313 (bz_pool L a 15) g 131 [(0, .ref a)] [] := by
  have hB := bz_B.rf (bz_W.one hH)
  refine g_aload_n (q := 132) dX9_init_131 rfl rfl ?_
  refine gb_callV (q := 135) (j := 0) (i := 0) dX9_init_132 rfl kv_X9_61 (c_mclearDraft (I := ci_I9) (A := ci_A9) (hB.1.at (j := 0) rfl)) rfl (by decide) hB rfl rfl rfl rfl (bz_le rfl) (bz_le rfl) (bz_le rfl) (fun r g1 hQ => ?_)
  obtain ⟨rfl, h1⟩ := hQ
  have hB := w_B1 (j := 0) hB rfl h1 rfl
  refine g_aload_n (q := 136) dX9_init_135 rfl rfl ?_
  refine gb_callV (q := 139) (j := 0) (i := 0) dX9_init_136 rfl kv_X9_64 (c_mliftsAll (I := va_up ci_I9 20 (nI 2)) (A := q_c0 (q_c0 (q_cd ci_A9) 0) 1) (hB.1.at (j := 0) rfl)) rfl (by decide) hB rfl rfl rfl rfl (bz_le rfl) (bz_le rfl) (bz_le rfl) (fun r g1 hQ => ?_)
  obtain ⟨rfl, h1⟩ := hQ
  have hB := w_B1 (j := 0) hB rfl h1 rfl
  refine g_aload_n (q := 140) dX9_init_139 rfl rfl ?_
  refine gb_callV (q := 143) (j := 0) (i := 0) dX9_init_140 rfl kv_X9_67 (c_mbegins (I := va_up ci_I9 20 (nI 2)) (A := q_lift (q_c0 (q_c0 (q_cd ci_A9) 0) 1)) (hB.1.at (j := 0) rfl)) rfl (by decide) hB rfl rfl rfl rfl (bz_le rfl) (bz_le rfl) (bz_le rfl) (fun r g1 hQ => ?_)
  obtain ⟨rfl, h1⟩ := hQ
  have hB := w_B1 (j := 0) hB rfl h1 rfl
  have hpl := q_lift_pl d_0_ok (q_cd_dr (A := ci_A9))
  refine gi_ret dX9_init_143 rfl rfl rfl ⟨⟨_, _, hB.1.at (j := 0) rfl, rfl, rfl, rfl, rfl, hpl, fun m0 m1 h0 h1 => m_st_0 (fun i hi => (h0 i hi).trans (hpl.2.2.1 i (by omega)).symm) (fun i hi => (h1 i hi).trans (hpl.2.2.1 (16 + i) (by omega)).symm), fun i => congrFun (q_cd_fA.1 9 (by decide)) i, (show upd (upd (q_lift (q_c0 (q_c0 (q_cd ci_A9) 0) 1) 15) 0 (vp_nar .boolean (nI 0))) 1 (vp_nar .boolean (nI 0)) 0 = nI 0 from (upd_ne (by decide)).trans upd_eq), (show upd (upd (q_lift (q_c0 (q_c0 (q_cd ci_A9) 0) 1) 15) 0 (vp_nar .boolean (nI 0))) 1 (vp_nar .boolean (nI 0)) 1 = nI 0 from upd_eq)⟩, fun x hx => ?_⟩
  exact (hB.2 x (fun r hr hc => by rw [List.mem_singleton.mp hr] at hc; dsimp only at hc; omega)).trans (hlow x hx)

set_option maxRecDepth 20000 in
set_option maxHeartbeats 2000000 in
theorem ci_X9 {l : Launch} {E : bz_E} {L : List Nat} {g : Nat → va_E} {a : Nat} (hH : bz_H L g a [.inr (9, [.int 0, .null, .null, .null, .null, .null, .null, .null, .null, .null, .int 0, .int 0, .int 0, .int 0, .int 0, .int 0, .int 0, .int 0, .int 0, .int 0, .int 0, .int 0, .null, .null, .int 0, .null, .int 0, .int 0, .null, .null, .null])]) : bz_KI l E mX9_init 2 15 32313 a L g (w_Q9 E L g a) := by
  refine bz_KI.of (by decide) (by decide) ?_
  have hC : ci_S L g a 0 (.inr (9, [.int 0, .null, .null, .null, .null, .null, .null, .null, .null, .null, .int 0, .int 0, .int 0, .int 0, .int 0, .int 0, .int 0, .int 0, .int 0, .int 0, .int 0, .int 0, .null, .null, .int 0, .null, .int 0, .int 0, .null, .null, .null]) :: List.flatten []) g := ⟨rfl, by rw [bz_pool_0]; exact hH, fun _ _ => rfl⟩
  refine g_aload_n (q := 1) dX9_init_0 rfl rfl ?_
  refine g_objI (q := 4) dX9_init_1 rfl (bz_mw 1192 (by decide +kernel)) (by decide) (bz_le rfl) ?_
  refine g_aload_n (q := 5) dX9_init_4 rfl rfl ?_
  refine g_sipush (q := 8) (v := (nI 2075)) dX9_init_5 rfl (by decide) ?_
  refine gi_arr (q := 10) (t0 := 1) (ty := .int) (x0 := .inl (fun _ => 0)) hC dX9_init_8 rfl rfl (bz_mw 165 (by decide +kernel)) rfl (fun _ _ h => h) (fun _ => rfl) (by decide) (by decide) (bz_le rfl) (bz_le rfl) (fun g hC => ?_)
  have hC := ci_S.fl hC
  refine gi_putF (q := 13) (i := 0) hC dX9_init_10 rfl fp_X9_7 rfl rfl rfl (bz_le rfl) rfl rfl (fun g hC => ?_)
  have hC := ci_S.st hC
  refine g_aload_n (q := 14) dX9_init_13 rfl rfl ?_
  refine g_bipush (q := 16) (v := (nI 16)) dX9_init_14 rfl (by decide) ?_
  refine gi_arr (q := 18) (t0 := 1) (ty := .int) (x0 := .inl (fun _ => 0)) hC dX9_init_16 rfl rfl (bz_mw 165 (by decide +kernel)) rfl (fun _ _ h => h) (fun _ => rfl) (by decide) (by decide) (bz_le rfl) (bz_le rfl) (fun g hC => ?_)
  have hC := ci_S.fl hC
  refine gi_putF (q := 21) (i := 0) hC dX9_init_18 rfl fp_X9_13 rfl rfl rfl (bz_le rfl) rfl rfl (fun g hC => ?_)
  have hC := ci_S.st hC
  refine g_aload_n (q := 22) dX9_init_21 rfl rfl ?_
  refine g_bipush (q := 24) (v := (nI 16)) dX9_init_22 rfl (by decide) ?_
  refine gi_arr (q := 26) (t0 := 1) (ty := .int) (x0 := .inl (fun _ => 0)) hC dX9_init_24 rfl rfl (bz_mw 165 (by decide +kernel)) rfl (fun _ _ h => h) (fun _ => rfl) (by decide) (by decide) (bz_le rfl) (bz_le rfl) (fun g hC => ?_)
  have hC := ci_S.fl hC
  refine gi_putF (q := 29) (i := 0) hC dX9_init_26 rfl fp_X9_16 rfl rfl rfl (bz_le rfl) rfl rfl (fun g hC => ?_)
  have hC := ci_S.st hC
  refine g_aload_n (q := 30) dX9_init_29 rfl rfl ?_
  refine g_bipush (q := 32) (v := (nI 32)) dX9_init_30 rfl (by decide) ?_
  refine gi_arr (q := 34) (t0 := 1) (ty := .int) (x0 := .inl (fun _ => 0)) hC dX9_init_32 rfl rfl (bz_mw 165 (by decide +kernel)) rfl (fun _ _ h => h) (fun _ => rfl) (by decide) (by decide) (bz_le rfl) (bz_le rfl) (fun g hC => ?_)
  have hC := ci_S.fl hC
  refine gi_putF (q := 37) (i := 0) hC dX9_init_34 rfl fp_X9_19 rfl rfl rfl (bz_le rfl) rfl rfl (fun g hC => ?_)
  have hC := ci_S.st hC
  refine g_aload_n (q := 38) dX9_init_37 rfl rfl ?_
  refine g_bipush (q := 40) (v := (nI 64)) dX9_init_38 rfl (by decide) ?_
  refine gi_arr (q := 42) (t0 := 1) (ty := .int) (x0 := .inl (fun _ => 0)) hC dX9_init_40 rfl rfl (bz_mw 165 (by decide +kernel)) rfl (fun _ _ h => h) (fun _ => rfl) (by decide) (by decide) (bz_le rfl) (bz_le rfl) (fun g hC => ?_)
  have hC := ci_S.fl hC
  refine gi_putF (q := 45) (i := 0) hC dX9_init_42 rfl fp_X9_22 rfl rfl rfl (bz_le rfl) rfl rfl (fun g hC => ?_)
  have hC := ci_S.st hC
  refine g_aload_n (q := 46) dX9_init_45 rfl rfl ?_
  refine g_iconst (q := 47) (v := (nI 4)) dX9_init_46 rfl (by decide) ?_
  refine gi_arr (q := 49) (t0 := 1) (ty := .int) (x0 := .inl (fun _ => 0)) hC dX9_init_47 rfl rfl (bz_mw 165 (by decide +kernel)) rfl (fun _ _ h => h) (fun _ => rfl) (by decide) (by decide) (bz_le rfl) (bz_le rfl) (fun g hC => ?_)
  have hC := ci_S.fl hC
  refine gi_putF (q := 52) (i := 0) hC dX9_init_49 rfl fp_X9_25 rfl rfl rfl (bz_le rfl) rfl rfl (fun g hC => ?_)
  have hC := ci_S.st hC
  refine g_aload_n (q := 53) dX9_init_52 rfl rfl ?_
  refine g_iconst (q := 54) (v := (nI 4)) dX9_init_53 rfl (by decide) ?_
  refine gi_arr (q := 56) (t0 := 1) (ty := .int) (x0 := .inl (fun _ => 0)) hC dX9_init_54 rfl rfl (bz_mw 165 (by decide +kernel)) rfl (fun _ _ h => h) (fun _ => rfl) (by decide) (by decide) (bz_le rfl) (bz_le rfl) (fun g hC => ?_)
  have hC := ci_S.fl hC
  refine gi_putF (q := 59) (i := 0) hC dX9_init_56 rfl fp_X9_28 rfl rfl rfl (bz_le rfl) rfl rfl (fun g hC => ?_)
  have hC := ci_S.st hC
  refine g_aload_n (q := 60) dX9_init_59 rfl rfl ?_
  refine g_sipush (q := 63) (v := (nI 2480)) dX9_init_60 rfl (by decide) ?_
  refine gi_arr (q := 65) (t0 := 1) (ty := .int) (x0 := .inl (fun _ => 0)) hC dX9_init_63 rfl rfl (bz_mw 165 (by decide +kernel)) rfl (fun _ _ h => h) (fun _ => rfl) (by decide) (by decide) (bz_le rfl) (bz_le rfl) (fun g hC => ?_)
  have hC := ci_S.fl hC
  refine gi_putF (q := 68) (i := 0) hC dX9_init_65 rfl fp_X9_31 rfl rfl rfl (bz_le rfl) rfl rfl (fun g hC => ?_)
  have hC := ci_S.st hC
  refine g_aload_n (q := 69) dX9_init_68 rfl rfl ?_
  refine g_sipush (q := 72) (v := (nI 600)) dX9_init_69 rfl (by decide) ?_
  refine gi_arr (q := 74) (t0 := 0) (ty := .byte) (x0 := .inl (fun _ => 0)) hC dX9_init_72 rfl rfl (bz_mw 164 (by decide +kernel)) rfl (fun _ _ h => h) (fun _ => rfl) (by decide) (by decide) (bz_le rfl) (bz_le rfl) (fun g hC => ?_)
  have hC := ci_S.fl hC
  refine gi_putF (q := 77) (i := 0) hC dX9_init_74 rfl fp_X9_34 rfl rfl rfl (bz_le rfl) rfl rfl (fun g hC => ?_)
  have hC := ci_S.st hC
  refine g_aload_n (q := 78) dX9_init_77 rfl rfl ?_
  refine g_iconst (q := 79) (v := (-1)) dX9_init_78 rfl (by decide) ?_
  refine gi_putf (q := 82) (i := 0) hC dX9_init_79 rfl fp_X9_38 rfl rfl (bz_le rfl) rfl rfl (fun g hC => ?_)
  have hC := ci_S.st hC
  refine g_aload_n (q := 83) dX9_init_82 rfl rfl ?_
  refine g_bipush (q := 85) (v := (nI 40)) dX9_init_83 rfl (by decide) ?_
  refine gi_arr (q := 87) (t0 := 1) (ty := .int) (x0 := .inl (fun _ => 0)) hC dX9_init_85 rfl rfl (bz_mw 165 (by decide +kernel)) rfl (fun _ _ h => h) (fun _ => rfl) (by decide) (by decide) (bz_le rfl) (bz_le rfl) (fun g hC => ?_)
  have hC := ci_S.fl hC
  refine gi_putF (q := 90) (i := 0) hC dX9_init_87 rfl fp_X9_42 rfl rfl rfl (bz_le rfl) rfl rfl (fun g hC => ?_)
  have hC := ci_S.st hC
  refine g_aload_n (q := 91) dX9_init_90 rfl rfl ?_
  refine g_iconst (q := 92) (v := (nI 5)) dX9_init_91 rfl (by decide) ?_
  refine gi_arr (q := 94) (t0 := 1) (ty := .int) (x0 := .inl (fun _ => 0)) hC dX9_init_92 rfl rfl (bz_mw 165 (by decide +kernel)) rfl (fun _ _ h => h) (fun _ => rfl) (by decide) (by decide) (bz_le rfl) (bz_le rfl) (fun g hC => ?_)
  have hC := ci_S.fl hC
  refine gi_putF (q := 97) (i := 0) hC dX9_init_94 rfl fp_X9_45 rfl rfl rfl (bz_le rfl) rfl rfl (fun g hC => ?_)
  have hC := ci_S.st hC
  refine g_aload_n (q := 98) dX9_init_97 rfl rfl ?_
  refine g_sipush (q := 101) (v := (nI 2075)) dX9_init_98 rfl (by decide) ?_
  refine gi_arr (q := 103) (t0 := 1) (ty := .int) (x0 := .inl (fun _ => 0)) hC dX9_init_101 rfl rfl (bz_mw 165 (by decide +kernel)) rfl (fun _ _ h => h) (fun _ => rfl) (by decide) (by decide) (bz_le rfl) (bz_le rfl) (fun g hC => ?_)
  have hC := ci_S.fl hC
  refine gi_putF (q := 106) (i := 0) hC dX9_init_103 rfl fp_X9_48 rfl rfl rfl (bz_le rfl) rfl rfl (fun g hC => ?_)
  have hC := ci_S.st hC
  refine g_aload_n (q := 107) dX9_init_106 rfl rfl ?_
  refine g_sipush (q := 110) (v := (nI 20750)) dX9_init_107 rfl (by decide) ?_
  refine gi_arr (q := 112) (t0 := 1) (ty := .int) (x0 := .inl (fun _ => 0)) hC dX9_init_110 rfl rfl (bz_mw 165 (by decide +kernel)) rfl (fun _ _ h => h) (fun _ => rfl) (by decide) (by decide) (bz_le rfl) (bz_le rfl) (fun g hC => ?_)
  have hC := ci_S.fl hC
  refine gi_putF (q := 115) (i := 0) hC dX9_init_112 rfl fp_X9_51 rfl rfl rfl (bz_le rfl) rfl rfl (fun g hC => ?_)
  have hC := ci_S.st hC
  refine g_aload_n (q := 116) dX9_init_115 rfl rfl ?_
  refine g_sipush (q := 119) (v := (nI 4150)) dX9_init_116 rfl (by decide) ?_
  refine gi_arr (q := 121) (t0 := 1) (ty := .int) (x0 := .inl (fun _ => 0)) hC dX9_init_119 rfl rfl (bz_mw 165 (by decide +kernel)) rfl (fun _ _ h => h) (fun _ => rfl) (by decide) (by decide) (bz_le rfl) (bz_le rfl) (fun g hC => ?_)
  have hC := ci_S.fl hC
  refine gi_putF (q := 124) (i := 0) hC dX9_init_121 rfl fp_X9_54 rfl rfl rfl (bz_le rfl) rfl rfl (fun g hC => ?_)
  have hC := ci_S.st hC
  refine g_aload_n (q := 125) dX9_init_124 rfl rfl ?_
  refine g_iconst (q := 126) (v := (nI 2)) dX9_init_125 rfl (by decide) ?_
  refine gi_arr (q := 128) (t0 := 2) (ty := .boolean) (x0 := .inl (fun _ => 0)) hC dX9_init_126 rfl rfl (bz_mw 1309 (by decide +kernel)) rfl (fun _ _ h => h) (fun _ => rfl) (by decide) (by decide) (bz_le rfl) (bz_le rfl) (fun g hC => ?_)
  have hC := ci_S.fl hC
  refine gi_putF (q := 131) (i := 0) hC dX9_init_128 rfl fp_X9_57 rfl rfl rfl (bz_le rfl) rfl rfl (fun g hC => ?_)
  have hC := ci_S.st hC
  exact ci_X9_131 hC.2.2 hC.2.1

