/-! the class: undo, snapshots -/
theorem bz_ap_ij {bs : bz_L} (h : bz_ap bs) {i j : Nat} {x y : Nat × List va_E} (hij : i ≠ j) (hi : bs[i]? = some x) (hj : bs[j]? = some y) : x.1 + x.2.length ≤ y.1 ∨ y.1 + y.2.length ≤ x.1 := by
  unfold bz_ap at h
  rw [List.pairwise_iff_getElem] at h
  obtain ⟨hi1, rfl⟩ := List.getElem?_eq_some_iff.mp hi
  obtain ⟨hj1, rfl⟩ := List.getElem?_eq_some_iff.mp hj
  rcases Nat.lt_or_gt_of_ne hij with c | c
  · exact h i j hi1 hj1 c
  · exact (h j i hj1 hi1 c).symm
theorem w_pick2 {L : List Nat} {g : Nat → va_E} {bs : bz_L} {x y : Nat × List va_E} (h : bz_W L g bs) (i j : Nat) (hi : bs[i]? = some x) (hj : bs[j]? = some y) (hij : i ≠ j) : bz_W L g [x, y] :=
  bz_W.two (h.1 x (List.mem_of_getElem? hi)) (h.1 y (List.mem_of_getElem? hj)) (bz_ap_ij h.2 hij hi hj)
theorem w_pick3 {L : List Nat} {g : Nat → va_E} {bs : bz_L} {x y z : Nat × List va_E} (h : bz_W L g bs) (i j k : Nat) (hi : bs[i]? = some x) (hj : bs[j]? = some y) (hk : bs[k]? = some z) (hij : i ≠ j) (hik : i ≠ k) (hjk : j ≠ k) : bz_W L g [x, y, z] := by
  refine bz_W.cons (h.1 x (List.mem_of_getElem? hi)) (w_pick2 h j k hj hk hjk) (fun b hb => ?_)
  rcases List.mem_cons.mp hb with rfl | hb
  · exact bz_ap_ij h.2 hij hi hj
  · rw [List.mem_singleton.mp hb]; exact bz_ap_ij h.2 hik hi hk
def s_like (σ τ : Si) : Prop := ∃ m0 m1 : Nat → Int32, τ = s_cm σ m0 m1
theorem h_f_at {a x : Nat} (h : x < 10) : h_f a 10 x = some (a + 1 + (1 + 27 * x)) := if_pos h

theorem h_pv_lt {n : Nat} (h : n < 10) : s_pv n < 10 := by unfold s_pv; split <;> omega
theorem w_nz (b : Bool) : narrow FieldType.boolean (Value.int (tB b)) = Value.int (tB b) := by cases b <;> rfl
theorem w_up_self {α : Type} {f : Nat → α} {i : Nat} : va_up f i (f i) = f := by
  funext j
  unfold va_up
  by_cases h : j = i
  · rw [if_pos h, h]
  · rw [if_neg h]
def w_sv (A : WA) (s : Nat) : Bool := if s = 0 then A.s0.isSome else A.s1.isSome
def w_sn (A : WA) (s : Nat) : Option Si := if s = 0 then A.s0 else A.s1
def w_us (A : WA) (s : Nat) (τ : Si) : WA := if s = 0 then A.u_s0 (some τ) else A.u_s1 (some τ)
set_option maxRecDepth 20000 in
set_option maxHeartbeats 1000000 in
theorem c8_isSaved {l : Launch} {E : bz_E} {L : List Nat} {g : Nat → va_E} {o : Nat} {A : WA} {R : WR} {s : Nat} (hs : s < 2) (hW : bz_W L g (w_bs E o A R)) : bz_K l E mX8_isSaved 0 [.ref o, .int (nI s)] L g (fun r g1 => r = some (.int (tB (w_sv A s))) ∧ g1 = g) := by
  refine bz_K.of (by decide) (bz_le rfl) (fun sz => ?_)
  have hB := bz_B.rf hW
  show bz_G _ _ _ _ _ _ _ _ _ _ _ _ 0 [(0, .ref o), (1, .int (nI s))] []
  rcases (show s = 0 ∨ s = 1 by omega) with rfl | rfl
  · refine g_iload_n (q := 1) dX8_isSaved_0 rfl rfl ?_
    refine g_ifN_ne (q := 4) (t := 11) dX8_isSaved_1 rfl (by decide) (by omega) (fun c => absurd c (by omega)) (fun _ => ?_)
    refine g_aload_n (q := 5) dX8_isSaved_4 rfl rfl ?_
    refine gb_getf (q := 8) (j := 0) (i := 0) dX8_isSaved_5 rfl fl_X8_91 hB rfl rfl rfl rfl ?_
    refine g_goto (q := 15) dX8_isSaved_8 (by decide) ?_
    exact g_zret dX8_isSaved_15 rfl (w_nz _) ⟨rfl, rfl⟩
  · refine g_iload_n (q := 1) dX8_isSaved_0 rfl rfl ?_
    refine g_ifN_ne (q := 4) (t := 11) dX8_isSaved_1 rfl (by decide) (by omega) (fun _ => ?_) (fun c => absurd c (by omega))
    refine g_aload_n (q := 12) dX8_isSaved_11 rfl rfl ?_
    refine gb_getf (q := 15) (j := 0) (i := 0) dX8_isSaved_12 rfl fl_X8_95 hB rfl rfl rfl rfl ?_
    exact g_zret dX8_isSaved_15 rfl (w_nz _) ⟨rfl, rfl⟩
set_option maxRecDepth 20000 in
set_option maxHeartbeats 1000000 in
theorem c8_undo0 {l : Launch} {E : bz_E} {L : List Nat} {g : Nat → va_E} {o : Nat} {A : WA} (h0 : A.hs = []) (hX : w_X E L g o A) : bz_K l E mX8_undo 5 [.ref o] L g (fun r g1 => r = some (.int (-1)) ∧ g1 = g) := by
  refine bz_K.of (by decide) (bz_le rfl) (fun sz => ?_)
  obtain ⟨R, hW, hk⟩ := hX
  have hB := bz_B.rf hW
  obtain ⟨hn6, hb6, hpq, hT, hD, hS, hnw, hlen, hrg, hs0, hs1⟩ := hk
  show bz_G _ _ _ _ _ _ _ _ _ _ _ _ 0 [(0, .ref o)] []
  refine g_aload_n (q := 1) dX8_undo_0 rfl rfl ?_
  refine gb_getf (q := 4) (j := 0) (i := 0) dX8_undo_1 rfl fl_X8_43 hB rfl rfl rfl rfl ?_
  refine g_aload_n (q := 5) dX8_undo_4 rfl rfl ?_
  refine gb_getf (q := 8) (j := 0) (i := 0) dX8_undo_5 rfl fl_X8_33 hB rfl rfl rfl rfl ?_
  refine gb_callV (q := 11) (j := 7) (i := 0) dX8_undo_8 rfl kv_X8_260 (c_takeBack0 (o := o + 81) (n := R.nw) hnw (h_f_at hnw) (by have := hB.1.at (j := 7) rfl; rw [h0] at this; exact this)) rfl (by decide) hB rfl rfl rfl rfl (bz_le rfl) (by decide) (by decide) (fun r g1 hQ => ?_)
  obtain ⟨rfl, hg⟩ := hQ
  have hg := hg.symm
  subst hg
  exact g_iret dX8_undo_11 rfl (⟨rfl, rfl⟩)
set_option maxRecDepth 20000 in
set_option maxHeartbeats 1000000 in
theorem c8_undo1 {l : Launch} {E : bz_E} {L : List Nat} {g : Nat → va_E} {o : Nat} {A : WA} {hs : List Si} {τ : Si} (h0 : A.hs = hs ++ [τ]) (hX : w_X E L g o A) : bz_K l E mX8_undo 5 [.ref o] L g (fun r g1 => r = some (.int (nI hs.length)) ∧ ∃ τ1 : Si, s_like τ τ1 ∧ w_P E L g o ((A.u_s τ1).u_hs hs) g1) := by
  refine bz_K.of (by decide) (bz_le rfl) (fun sz => ?_)
  obtain ⟨R, hW, hk⟩ := hX
  have hB := bz_B.rf hW
  obtain ⟨hn6, hb6, hpq, hT, hD, hS, hnw, hlen, hrg, hs0, hs1⟩ := hk
  have hl : A.hs.length = hs.length + 1 := by rw [h0, List.length_append]; rfl
  have hrb := h_rg_tb hnw (by omega) (h0 ▸ hrg)
  have hW3 : bz_W L g [(o + 81, b_Hist E (o + 81) (h_f (o + 81) 10) (nI R.nw) (nI (hs.length + 1))), (o + 81 + 1 + (1 + 27 * R.nw), b_Sit E (o + 81 + 1 + (1 + 27 * R.nw)) (R.rB R.nw)), (o + 27, b_Sit E (o + 27) R.rS)] := by
    rw [← hl]
    exact w_pick3 hW 7 (8 + R.nw) 5 rfl (w_bs_at hnw) rfl (by omega) (by decide) (by omega)
  show bz_G _ _ _ _ _ _ _ _ _ _ _ _ 0 [(0, .ref o)] []
  refine g_aload_n (q := 1) dX8_undo_0 rfl rfl ?_
  refine gb_getf (q := 4) (j := 0) (i := 0) dX8_undo_1 rfl fl_X8_43 hB rfl rfl rfl rfl ?_
  refine g_aload_n (q := 5) dX8_undo_4 rfl rfl ?_
  refine gb_getf (q := 8) (j := 0) (i := 0) dX8_undo_5 rfl fl_X8_33 hB rfl rfl rfl rfl ?_
  refine gb_callV (q := 11) (j := 7) (i := 0) dX8_undo_8 rfl kv_X8_260 (c_takeBack (o := o + 81) (y := o + 27) (n := R.nw) (ct := hs.length) (r0 := R.rB R.nw) (r2 := R.rS) (σ := τ) hnw (by omega) (h_f_at hnw) hrb.1 hW3) rfl (by decide) hB rfl rfl rfl rfl (bz_le rfl) (by decide) (by decide) (fun r g1 hQ => ?_)
  obtain ⟨rfl, h1⟩ := hQ
  obtain ⟨gm, m1, gn, m2, m3⟩ := bz_B.mid3 (hW.at (j := 7) rfl) (hW.at (w_bs_at hnw)) (by rfl) (by rfl) h1
  have hB1 : bz_B _ _ _ (w_bs E o (A.u_hs hs) (R.u_nw (s_pv R.nw))) := w_B1 (j := 7) hB rfl m1 rfl
  have hB2 := w_B1 (j := 8 + R.nw) hB1 (w_bs_at hnw) m2 rfl
  rw [w_bs_set hnw] at hB2
  have hB : bz_B _ _ _ (w_bs E o ((A.u_s (s_cm τ (s_m R.rS.2.2.1) (s_m R.rS.2.2.2))).u_hs hs) (((R.u_nw (s_pv R.nw)).u_rB (va_up R.rB R.nw (R.rB R.nw))).u_rS (s_cps R.rS (R.rB R.nw) τ))) := w_B1 (j := 5) hB2 rfl m3 rfl
  exact g_iret dX8_undo_11 rfl (⟨rfl, _, ⟨_, _, rfl⟩, w_to hB ⟨hn6, hb6, hpq, hT, hD, s_cps_rep hrb.1, h_pv_lt hnw, (show hs.length ≤ 10 by omega), fun i x hx => by rw [w_up_self]; exact hrb.2 i x hx, hs0, hs1⟩⟩)
set_option maxRecDepth 20000 in
set_option maxHeartbeats 1000000 in
theorem c8_save1 {l : Launch} {E : bz_E} {L : List Nat} {g : Nat → va_E} {o : Nat} {v : Int32} (hl : l.stackTraces = false) (hb : m_bad v 2 = true) : bz_KX l E mX8_saveSnapshot 7 [.ref o, .int v] L g x_IOE := by
  refine bz_KX.of (by decide) (bz_le rfl) (fun sz => ?_)
  show bz_G _ _ _ _ _ _ _ _ _ _ _ _ 0 [(0, .ref o), (1, .int v)] []
  refine g_iload_n (q := 1) dX8_saveSnapshot_0 rfl rfl ?_
  exact g_callSX dX8_saveSnapshot_1 (by decide +kernel) ks_X8_264 rfl (c8_checkSlot1 hl hb) (by decide) rfl (bz_le rfl)
set_option maxRecDepth 20000 in
set_option maxHeartbeats 1000000 in
theorem c8_save0 {l : Launch} {E : bz_E} {L : List Nat} {g : Nat → va_E} {o : Nat} {A : WA} {s : Nat} (hs : s < 2) (hX : w_X E L g o A) : bz_K l E mX8_saveSnapshot 4 [.ref o, .int (nI s)] L g (fun r g1 => r = some (.int (tB (w_sv A s))) ∧ ∃ τ : Si, s_like A.s τ ∧ w_P E L g o (w_us A s τ) g1) := by
  refine bz_K.of (by decide) (bz_le rfl) (fun sz => ?_)
  obtain ⟨R, hW, hk⟩ := hX
  have hB := bz_B.rf hW
  obtain ⟨hn6, hb6, hpq, hT, hD, hS, hnw, hlen, hrg, hs0, hs1⟩ := hk
  show bz_G _ _ _ _ _ _ _ _ _ _ _ _ 0 [(0, .ref o), (1, .int (nI s))] []
  rcases (show s = 0 ∨ s = 1 by omega) with rfl | rfl
  · refine g_iload_n (q := 1) dX8_saveSnapshot_0 rfl rfl ?_
    refine g_callS (q := 4) dX8_saveSnapshot_1 rfl ks_X8_264 rfl (c8_checkSlot0 hs) (by decide) rfl (bz_le rfl) (by decide) (by decide) (fun r g1 hQ => ?_)
    obtain ⟨rfl, hg⟩ := hQ
    have hg := hg.symm
    subst hg
    refine g_aload_n (q := 5) dX8_saveSnapshot_4 rfl rfl ?_
    refine g_iload_n (q := 6) dX8_saveSnapshot_5 rfl rfl ?_
    refine gb_callV (q := 9) (j := 0) (i := 0) dX8_saveSnapshot_6 rfl kv_X8_267 (c8_isSaved hs hB.1) rfl (by decide) hB rfl rfl rfl rfl (bz_le rfl) (by decide) (by decide) (fun r g1 hQ => ?_)
    obtain ⟨rfl, hg⟩ := hQ
    have hg := hg.symm
    subst hg
    refine g_istore_n (q := 10) rfl dX8_saveSnapshot_9 rfl (by decide) rfl ?_
    refine g_iload_n (q := 11) dX8_saveSnapshot_10 rfl rfl ?_
    refine g_ifN_ne (q := 14) (t := 33) dX8_saveSnapshot_11 rfl (by decide) (by omega) (fun c => absurd c (by omega)) (fun _ => ?_)
    refine g_aload_n (q := 15) dX8_saveSnapshot_14 rfl rfl ?_
    refine gb_getf (q := 18) (j := 0) (i := 0) dX8_saveSnapshot_15 rfl fl_X8_47 hB rfl rfl rfl rfl ?_
    refine g_aload_n (q := 19) dX8_saveSnapshot_18 rfl rfl ?_
    refine gb_getf (q := 22) (j := 0) (i := 0) dX8_saveSnapshot_19 rfl fl_X8_33 hB rfl rfl rfl rfl ?_
    refine gb_callV (q := 25) (j := 18) (i := 0) dX8_saveSnapshot_22 rfl kv_X8_208 (c_scopyFrom (r0 := R.r0) (r2 := R.rS) (σ := A.s) hS (hB.1.at (j := 18) rfl) (hB.1.at (j := 5) rfl) (by omega)) rfl (by decide) hB rfl rfl rfl rfl (bz_le rfl) (by decide) (by decide) (fun r g1 hQ => ?_)
    obtain ⟨rfl, h1⟩ := hQ
    have hB : bz_B _ _ _ (w_bs E o A (R.u_r0 (s_cps R.r0 R.rS A.s))) := w_B1 (j := 18) hB rfl h1 rfl
    refine g_aload_n (q := 26) dX8_saveSnapshot_25 rfl rfl ?_
    refine g_iconst (q := 27) (v := (nI 1)) dX8_saveSnapshot_26 rfl (by decide) ?_
    refine gb_putf (q := 30) (j := 0) (i := 0) dX8_saveSnapshot_27 rfl fp_X8_91 hB rfl rfl rfl (bz_le rfl) rfl rfl (fun g hB => ?_)
    refine g_goto (q := 49) dX8_saveSnapshot_30 (by decide) ?_
    refine g_iload_n (q := 50) dX8_saveSnapshot_49 rfl rfl ?_
    exact g_zret dX8_saveSnapshot_50 rfl (w_nz _) ⟨rfl, _, ⟨_, _, rfl⟩, w_to (A := w_us A 0 _) (R := R.u_r0 (s_cps R.r0 R.rS A.s)) hB ⟨hn6, hb6, hpq, hT, hD, hS, hnw, hlen, hrg, fun τ h => by cases h; exact s_cps_rep hS, hs1⟩⟩
  · refine g_iload_n (q := 1) dX8_saveSnapshot_0 rfl rfl ?_
    refine g_callS (q := 4) dX8_saveSnapshot_1 rfl ks_X8_264 rfl (c8_checkSlot0 hs) (by decide) rfl (bz_le rfl) (by decide) (by decide) (fun r g1 hQ => ?_)
    obtain ⟨rfl, hg⟩ := hQ
    have hg := hg.symm
    subst hg
    refine g_aload_n (q := 5) dX8_saveSnapshot_4 rfl rfl ?_
    refine g_iload_n (q := 6) dX8_saveSnapshot_5 rfl rfl ?_
    refine gb_callV (q := 9) (j := 0) (i := 0) dX8_saveSnapshot_6 rfl kv_X8_267 (c8_isSaved hs hB.1) rfl (by decide) hB rfl rfl rfl rfl (bz_le rfl) (by decide) (by decide) (fun r g1 hQ => ?_)
    obtain ⟨rfl, hg⟩ := hQ
    have hg := hg.symm
    subst hg
    refine g_istore_n (q := 10) rfl dX8_saveSnapshot_9 rfl (by decide) rfl ?_
    refine g_iload_n (q := 11) dX8_saveSnapshot_10 rfl rfl ?_
    refine g_ifN_ne (q := 14) (t := 33) dX8_saveSnapshot_11 rfl (by decide) (by omega) (fun _ => ?_) (fun c => absurd c (by omega))
    refine g_aload_n (q := 34) dX8_saveSnapshot_33 rfl rfl ?_
    refine gb_getf (q := 37) (j := 0) (i := 0) dX8_saveSnapshot_34 rfl fl_X8_50 hB rfl rfl rfl rfl ?_
    refine g_aload_n (q := 38) dX8_saveSnapshot_37 rfl rfl ?_
    refine gb_getf (q := 41) (j := 0) (i := 0) dX8_saveSnapshot_38 rfl fl_X8_33 hB rfl rfl rfl rfl ?_
    refine gb_callV (q := 44) (j := 19) (i := 0) dX8_saveSnapshot_41 rfl kv_X8_208 (c_scopyFrom (r0 := R.r1) (r2 := R.rS) (σ := A.s) hS (hB.1.at (j := 19) rfl) (hB.1.at (j := 5) rfl) (by omega)) rfl (by decide) hB rfl rfl rfl rfl (bz_le rfl) (by decide) (by decide) (fun r g1 hQ => ?_)
    obtain ⟨rfl, h1⟩ := hQ
    have hB : bz_B _ _ _ (w_bs E o A (R.u_r1 (s_cps R.r1 R.rS A.s))) := w_B1 (j := 19) hB rfl h1 rfl
    refine g_aload_n (q := 45) dX8_saveSnapshot_44 rfl rfl ?_
    refine g_iconst (q := 46) (v := (nI 1)) dX8_saveSnapshot_45 rfl (by decide) ?_
    refine gb_putf (q := 49) (j := 0) (i := 0) dX8_saveSnapshot_46 rfl fp_X8_95 hB rfl rfl rfl (bz_le rfl) rfl rfl (fun g hB => ?_)
    refine g_iload_n (q := 50) dX8_saveSnapshot_49 rfl rfl ?_
    exact g_zret dX8_saveSnapshot_50 rfl (w_nz _) ⟨rfl, _, ⟨_, _, rfl⟩, w_to (A := w_us A 1 _) (R := R.u_r1 (s_cps R.r1 R.rS A.s)) hB ⟨hn6, hb6, hpq, hT, hD, hS, hnw, hlen, hrg, hs0, fun τ h => by cases h; exact s_cps_rep hS⟩⟩
set_option maxRecDepth 20000 in
set_option maxHeartbeats 1000000 in
theorem c8_rest2 {l : Launch} {E : bz_E} {L : List Nat} {g : Nat → va_E} {o : Nat} {v : Int32} (hl : l.stackTraces = false) (hb : m_bad v 2 = true) : bz_KX l E mX8_restoreSnapshot 7 [.ref o, .int v] L g x_IOE := by
  refine bz_KX.of (by decide) (bz_le rfl) (fun sz => ?_)
  show bz_G _ _ _ _ _ _ _ _ _ _ _ _ 0 [(0, .ref o), (1, .int v)] []
  refine g_iload_n (q := 1) dX8_restoreSnapshot_0 rfl rfl ?_
  exact g_callSX dX8_restoreSnapshot_1 (by decide +kernel) ks_X8_264 rfl (c8_checkSlot1 hl hb) (by decide) rfl (bz_le rfl)
set_option maxRecDepth 20000 in
set_option maxHeartbeats 1000000 in
theorem c8_rest1 {l : Launch} {E : bz_E} {L : List Nat} {g : Nat → va_E} {o : Nat} {A : WA} {s : Nat} (hl : l.stackTraces = false) (hs : s < 2) (h0 : w_sv A s = false) (hX : w_X E L g o A) : bz_KX l E mX8_restoreSnapshot 6 [.ref o, .int (nI s)] L g x_ISE := by
  refine bz_KX.of (by decide) (bz_le rfl) (fun sz => ?_)
  obtain ⟨R, hW, hk⟩ := hX
  have hB := bz_B.rf hW
  obtain ⟨hn6, hb6, hpq, hT, hD, hS, hnw, hlen, hrg, hs0, hs1⟩ := hk
  show bz_G _ _ _ _ _ _ _ _ _ _ _ _ 0 [(0, .ref o), (1, .int (nI s))] []
  refine g_iload_n (q := 1) dX8_restoreSnapshot_0 rfl rfl ?_
  refine g_callS (q := 4) dX8_restoreSnapshot_1 rfl ks_X8_264 rfl (c8_checkSlot0 hs) (by decide) rfl (bz_le rfl) (by decide) (by decide) (fun r g1 hQ => ?_)
  obtain ⟨rfl, hg⟩ := hQ
  have hg := hg.symm
  subst hg
  refine g_aload_n (q := 5) dX8_restoreSnapshot_4 rfl rfl ?_
  refine g_iload_n (q := 6) dX8_restoreSnapshot_5 rfl rfl ?_
  refine gb_callV (q := 9) (j := 0) (i := 0) dX8_restoreSnapshot_6 rfl kv_X8_267 (c8_isSaved hs hB.1) rfl (by decide) hB rfl rfl rfl rfl (bz_le rfl) (by decide) (by decide) (fun r g1 hQ => ?_)
  obtain ⟨rfl, hg⟩ := hQ
  have hg := hg.symm
  subst hg
  rw [h0]
  refine g_if_ne (q := 12) (t := 23) dX8_restoreSnapshot_9 rfl (by decide) (fun c => absurd c (fun h => h rfl)) (fun _ => ?_)
  exact g_throwW (is := 270) (tx := "the slot is empty") (i := 25) hl rfl (by decide +kernel) (by decide) tx_ISE xk_ISE (by decide +kernel) (bz_le rfl) dX8_restoreSnapshot_12 dX8_restoreSnapshot_15 dX8_restoreSnapshot_16 dX8_restoreSnapshot_19 dX8_restoreSnapshot_22
set_option maxRecDepth 20000 in
set_option maxHeartbeats 1000000 in
theorem c8_rest0 {l : Launch} {E : bz_E} {L : List Nat} {g : Nat → va_E} {o : Nat} {A : WA} {s : Nat} {τ : Si} (hs : s < 2) (h0 : w_sn A s = some τ) (hX : w_X E L g o A) : bz_K l E mX8_restoreSnapshot 4 [.ref o, .int (nI s)] L g (fun r g1 => r = some (.int (nI τ.1)) ∧ ∃ τ1 : Si, s_like τ τ1 ∧ w_P E L g o ((A.u_s τ1).u_hs []) g1) := by
  refine bz_K.of (by decide) (bz_le rfl) (fun sz => ?_)
  obtain ⟨R, hW, hk⟩ := hX
  have hB := bz_B.rf hW
  obtain ⟨hn6, hb6, hpq, hT, hD, hS, hnw, hlen, hrg, hs0, hs1⟩ := hk
  show bz_G _ _ _ _ _ _ _ _ _ _ _ _ 0 [(0, .ref o), (1, .int (nI s))] []
  rcases (show s = 0 ∨ s = 1 by omega) with rfl | rfl
  · refine g_iload_n (q := 1) dX8_restoreSnapshot_0 rfl rfl ?_
    refine g_callS (q := 4) dX8_restoreSnapshot_1 rfl ks_X8_264 rfl (c8_checkSlot0 hs) (by decide) rfl (bz_le rfl) (by decide) (by decide) (fun r g1 hQ => ?_)
    obtain ⟨rfl, hg⟩ := hQ
    have hg := hg.symm
    subst hg
    refine g_aload_n (q := 5) dX8_restoreSnapshot_4 rfl rfl ?_
    refine g_iload_n (q := 6) dX8_restoreSnapshot_5 rfl rfl ?_
    refine gb_callV (q := 9) (j := 0) (i := 0) dX8_restoreSnapshot_6 rfl kv_X8_267 (c8_isSaved hs hB.1) rfl (by decide) hB rfl rfl rfl rfl (bz_le rfl) (by decide) (by decide) (fun r g1 hQ => ?_)
    obtain ⟨rfl, hg⟩ := hQ
    have hg := hg.symm
    subst hg
    rw [show w_sv A 0 = true from by show (A.s0).isSome = true; rw [show A.s0 = some τ from h0]; rfl]
    refine g_if_ne (q := 12) (t := 23) dX8_restoreSnapshot_9 rfl (by decide) (fun _ => ?_) (fun c => absurd c ((by decide : ¬ tB true = 0)))
    refine g_aload_n (q := 24) dX8_restoreSnapshot_23 rfl rfl ?_
    refine gb_getf (q := 27) (j := 0) (i := 0) dX8_restoreSnapshot_24 rfl fl_X8_33 hB rfl rfl rfl rfl ?_
    refine g_iload_n (q := 28) dX8_restoreSnapshot_27 rfl rfl ?_
    refine g_ifN_ne (q := 31) (t := 38) dX8_restoreSnapshot_28 rfl (by decide) (by omega) (fun c => absurd c (by omega)) (fun _ => ?_)
    refine g_aload_n (q := 32) dX8_restoreSnapshot_31 rfl rfl ?_
    refine gb_getf (q := 35) (j := 0) (i := 0) dX8_restoreSnapshot_32 rfl fl_X8_47 hB rfl rfl rfl rfl ?_
    refine g_goto (q := 42) dX8_restoreSnapshot_35 (by decide) ?_
    refine gb_callV (q := 45) (j := 5) (i := 0) dX8_restoreSnapshot_42 rfl kv_X8_208 (c_scopyFrom (r0 := R.rS) (r2 := R.r0) (σ := τ) (hs0 τ h0) (hB.1.at (j := 5) rfl) (hB.1.at (j := 18) rfl) (by omega)) rfl (by decide) hB rfl rfl rfl rfl (bz_le rfl) (by decide) (by decide) (fun r g1 hQ => ?_)
    obtain ⟨rfl, h1⟩ := hQ
    have hB : bz_B _ _ _ (w_bs E o (A.u_s (s_cm τ (s_m R.rS.2.2.1) (s_m R.rS.2.2.2))) (R.u_rS (s_cps R.rS R.r0 τ))) := w_B1 (j := 5) hB rfl h1 rfl
    refine g_aload_n (q := 46) dX8_restoreSnapshot_45 rfl rfl ?_
    refine gb_getf (q := 49) (j := 0) (i := 0) dX8_restoreSnapshot_46 rfl fl_X8_43 hB rfl rfl rfl rfl ?_
    refine gb_callV (q := 52) (j := 7) (i := 0) dX8_restoreSnapshot_49 rfl kv_X8_88 (c_forget (hB.1.at (j := 7) rfl)) rfl (by decide) hB rfl rfl rfl rfl (bz_le rfl) (by decide) (by decide) (fun r g1 hQ => ?_)
    obtain ⟨rfl, h1⟩ := hQ
    have hB : bz_B _ _ _ (w_bs E o ((A.u_s (s_cm τ (s_m R.rS.2.2.1) (s_m R.rS.2.2.2))).u_hs []) (R.u_rS (s_cps R.rS R.r0 τ))) := w_B1 (j := 7) hB rfl h1 rfl
    refine g_aload_n (q := 53) dX8_restoreSnapshot_52 rfl rfl ?_
    refine gb_getf (q := 56) (j := 0) (i := 0) dX8_restoreSnapshot_53 rfl fl_X8_33 hB rfl rfl rfl rfl ?_
    refine gb_getf (q := 59) (j := 5) (i := 0) dX8_restoreSnapshot_56 rfl fl_X8_98 hB rfl rfl rfl rfl ?_
    refine g_eqi (v := nI (τ.1)) ((hs0 τ h0).1) ?_
    exact g_iret dX8_restoreSnapshot_59 rfl (⟨rfl, _, ⟨_, _, rfl⟩, w_to hB ⟨hn6, hb6, hpq, hT, hD, s_cps_rep (hs0 τ h0), hnw, bz_le rfl, fun i x hx => absurd hx (by show ¬ (([] : List Si)[i]? = some x); simp), hs0, hs1⟩⟩)
  · refine g_iload_n (q := 1) dX8_restoreSnapshot_0 rfl rfl ?_
    refine g_callS (q := 4) dX8_restoreSnapshot_1 rfl ks_X8_264 rfl (c8_checkSlot0 hs) (by decide) rfl (bz_le rfl) (by decide) (by decide) (fun r g1 hQ => ?_)
    obtain ⟨rfl, hg⟩ := hQ
    have hg := hg.symm
    subst hg
    refine g_aload_n (q := 5) dX8_restoreSnapshot_4 rfl rfl ?_
    refine g_iload_n (q := 6) dX8_restoreSnapshot_5 rfl rfl ?_
    refine gb_callV (q := 9) (j := 0) (i := 0) dX8_restoreSnapshot_6 rfl kv_X8_267 (c8_isSaved hs hB.1) rfl (by decide) hB rfl rfl rfl rfl (bz_le rfl) (by decide) (by decide) (fun r g1 hQ => ?_)
    obtain ⟨rfl, hg⟩ := hQ
    have hg := hg.symm
    subst hg
    rw [show w_sv A 1 = true from by show (A.s1).isSome = true; rw [show A.s1 = some τ from h0]; rfl]
    refine g_if_ne (q := 12) (t := 23) dX8_restoreSnapshot_9 rfl (by decide) (fun _ => ?_) (fun c => absurd c ((by decide : ¬ tB true = 0)))
    refine g_aload_n (q := 24) dX8_restoreSnapshot_23 rfl rfl ?_
    refine gb_getf (q := 27) (j := 0) (i := 0) dX8_restoreSnapshot_24 rfl fl_X8_33 hB rfl rfl rfl rfl ?_
    refine g_iload_n (q := 28) dX8_restoreSnapshot_27 rfl rfl ?_
    refine g_ifN_ne (q := 31) (t := 38) dX8_restoreSnapshot_28 rfl (by decide) (by omega) (fun _ => ?_) (fun c => absurd c (by omega))
    refine g_aload_n (q := 39) dX8_restoreSnapshot_38 rfl rfl ?_
    refine gb_getf (q := 42) (j := 0) (i := 0) dX8_restoreSnapshot_39 rfl fl_X8_50 hB rfl rfl rfl rfl ?_
    refine gb_callV (q := 45) (j := 5) (i := 0) dX8_restoreSnapshot_42 rfl kv_X8_208 (c_scopyFrom (r0 := R.rS) (r2 := R.r1) (σ := τ) (hs1 τ h0) (hB.1.at (j := 5) rfl) (hB.1.at (j := 19) rfl) (by omega)) rfl (by decide) hB rfl rfl rfl rfl (bz_le rfl) (by decide) (by decide) (fun r g1 hQ => ?_)
    obtain ⟨rfl, h1⟩ := hQ
    have hB : bz_B _ _ _ (w_bs E o (A.u_s (s_cm τ (s_m R.rS.2.2.1) (s_m R.rS.2.2.2))) (R.u_rS (s_cps R.rS R.r1 τ))) := w_B1 (j := 5) hB rfl h1 rfl
    refine g_aload_n (q := 46) dX8_restoreSnapshot_45 rfl rfl ?_
    refine gb_getf (q := 49) (j := 0) (i := 0) dX8_restoreSnapshot_46 rfl fl_X8_43 hB rfl rfl rfl rfl ?_
    refine gb_callV (q := 52) (j := 7) (i := 0) dX8_restoreSnapshot_49 rfl kv_X8_88 (c_forget (hB.1.at (j := 7) rfl)) rfl (by decide) hB rfl rfl rfl rfl (bz_le rfl) (by decide) (by decide) (fun r g1 hQ => ?_)
    obtain ⟨rfl, h1⟩ := hQ
    have hB : bz_B _ _ _ (w_bs E o ((A.u_s (s_cm τ (s_m R.rS.2.2.1) (s_m R.rS.2.2.2))).u_hs []) (R.u_rS (s_cps R.rS R.r1 τ))) := w_B1 (j := 7) hB rfl h1 rfl
    refine g_aload_n (q := 53) dX8_restoreSnapshot_52 rfl rfl ?_
    refine gb_getf (q := 56) (j := 0) (i := 0) dX8_restoreSnapshot_53 rfl fl_X8_33 hB rfl rfl rfl rfl ?_
    refine gb_getf (q := 59) (j := 5) (i := 0) dX8_restoreSnapshot_56 rfl fl_X8_98 hB rfl rfl rfl rfl ?_
    refine g_eqi (v := nI (τ.1)) ((hs1 τ h0).1) ?_
    exact g_iret dX8_restoreSnapshot_59 rfl (⟨rfl, _, ⟨_, _, rfl⟩, w_to hB ⟨hn6, hb6, hpq, hT, hD, s_cps_rep (hs1 τ h0), hnw, bz_le rfl, fun i x hx => absurd hx (by show ¬ (([] : List Si)[i]? = some x); simp), hs0, hs1⟩⟩)
