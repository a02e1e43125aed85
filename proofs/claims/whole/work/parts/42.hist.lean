section GH
variable {l : Launch} {E : bz_E} {M : bz_M} {R : Room} {L0 : List Nat} {z0 : Nat} {Fn : bz_F} {sz k n : Nat} {L : List Nat} {g0 g : Nat → va_E} {pc q : Nat} {lv : List (Nat × Value)} {st : List Value} {bs : bz_L} {j o i a x : Nat} {es : List va_E}
theorem g_eqv {u v : Value} (h : u = v) (kk : bz_G l E M R L0 z0 Fn sz k n L g pc lv (v :: st)) : bz_G l E M R L0 z0 Fn sz k n L g pc lv (u :: st) := h ▸ kk
theorem gb_aaldN {N : Nat} {f : Nat → Option Nat} (hd : decode M.2.1 pc = .ok (.aaload, 1)) (hq : pc + 1 = q) (hB : bz_B L g0 g bs) (hb : bs[j]? = some (o, es)) (he : es[i]? = some (.inl (E.1.1 23, N, .inr (.inr (.inr (.inr f)))))) (ha : a = o + i) (hm : x < N) (hN : N < 2 ^ 31) (kk : bz_G l E M R L0 z0 Fn sz k n L g q lv (va_rf (f x) :: st)) : bz_G l E M R L0 z0 Fn sz k n L g pc lv (.int (nI x) :: .ref a :: st) :=
  gb_aald hd hq hB hb he ha (bz_vn hm hN) (by rw [nI_clamp (by omega)]; exact kk)
theorem g_ifnull {c : Int} (hd : decode M.2.1 pc = .ok (.ifnull c, 3)) (hq : pc + 3 = q) (kk : bz_G l E M R L0 z0 Fn sz k n L g q lv st) : bz_G l E M R L0 z0 Fn sz k n L g pc lv (.ref a :: st) := by
  subst hq
  intro p e s m args below meth c H locs ls C hz hP hD hS hl
  exact lv_ifnull C.1 C.2.1 hd (kk p e s m args below meth c H locs ls C hz hP hD hS hl)
theorem g_ifnonnull {c : Int} (hd : decode M.2.1 pc = .ok (.ifnonnull c, 3)) (ht : (pc : Int) + c = (q : Int)) (kk : bz_G l E M R L0 z0 Fn sz k n L g q lv st) : bz_G l E M R L0 z0 Fn sz k n L g pc lv (.ref a :: st) := by
  intro p e s m args below meth c H locs ls C hz hP hD hS hl
  exact lv_ifnonnull C.1 C.2.1 hd ht (kk p e s m args below meth c H locs ls C hz hP hD hS hl)
end GH
abbrev b_Hist (E : bz_E) (o : Nat) (f : Nat → Option Nat) (nw ct : Int32) : List va_E := [.inr (1, [.ref (o + 1), .int nw, .int ct]), .inl (E.1.1 23, 10, .inr (.inr (.inr (.inr f))))]
def s_nx (n : Nat) : Nat := if n + 1 < 10 then n + 1 else 0
def s_pv (n : Nat) : Nat := if 0 < n then n - 1 else 9
theorem s_nx_lt (n : Nat) : s_nx n < 10 := by unfold s_nx; split <;> omega

set_option maxRecDepth 20000 in
set_option maxHeartbeats 1000000 in
theorem c_newestBefore {l : Launch} {E : bz_E} {L : List Nat} {g : Nat → va_E} {o n z : Nat} {f : Nat → Option Nat} {ct : Int32} (hn : n < 10) (hf : f n = some z) (hH : bz_H L g o (b_Hist E o f (nI n) ct)) : bz_K l E mX1_newestBefore 0 [.ref o] L g (fun r g1 => r = some (.ref z) ∧ g1 = g) := by
  refine bz_K.of (by decide) (bz_le rfl) (fun sz => ?_)
  have hB := bz_B.rf (bz_W.one hH)
  show bz_G _ _ _ _ _ _ _ _ _ _ _ _ 0 [(0, .ref o)] []
  refine g_aload_n (q := 1) dX1_newestBefore_0 rfl rfl ?_
  refine gb_getf (q := 4) (j := 0) (i := 0) dX1_newestBefore_1 rfl fl_X1_22 hB rfl rfl rfl rfl ?_
  refine g_ifN_lt (q := 7) (t := 31) dX1_newestBefore_4 rfl (by decide) (by omega) ?_
  refine g_aload_n (q := 8) dX1_newestBefore_7 rfl rfl ?_
  refine gb_getf (q := 11) (j := 0) (i := 0) dX1_newestBefore_8 rfl fl_X1_22 hB rfl rfl rfl rfl ?_
  refine g_aload_n (q := 12) dX1_newestBefore_11 rfl rfl ?_
  refine gb_getf (q := 15) (j := 0) (i := 0) dX1_newestBefore_12 rfl fl_X1_11 hB rfl rfl rfl rfl ?_
  refine gb_alen (q := 16) (j := 0) (i := 1) (t0 := 3) dX1_newestBefore_15 rfl hB rfl rfl rfl rfl ?_
  refine g_icmpN_ge (q := 19) (t := 31) dX1_newestBefore_16 rfl (by decide) (by omega) (by omega) (fun c => absurd c (by omega)) (fun _ => ?_)
  refine g_aload_n (q := 20) dX1_newestBefore_19 rfl rfl ?_
  refine gb_getf (q := 23) (j := 0) (i := 0) dX1_newestBefore_20 rfl fl_X1_11 hB rfl rfl rfl rfl ?_
  refine g_aload_n (q := 24) dX1_newestBefore_23 rfl rfl ?_
  refine gb_getf (q := 27) (j := 0) (i := 0) dX1_newestBefore_24 rfl fl_X1_22 hB rfl rfl rfl rfl ?_
  refine gb_aaldN (q := 28) (j := 0) (i := 1) dX1_newestBefore_27 rfl hB rfl rfl rfl (by omega) (by decide) ?_
  refine g_eqv (v := .ref (z)) (by rw [hf]; rfl) ?_
  refine g_goto (q := 32) dX1_newestBefore_28 (by decide) ?_
  exact g_aret dX1_newestBefore_32 rfl (Or.inl ⟨_, rfl⟩) (Or.inr ⟨_, rfl⟩) ⟨rfl, rfl⟩
set_option maxRecDepth 20000 in
set_option maxHeartbeats 1000000 in
theorem c_forget {l : Launch} {E : bz_E} {L : List Nat} {g : Nat → va_E} {o : Nat} {f : Nat → Option Nat} {nw ct : Int32} (hH : bz_H L g o (b_Hist E o f nw ct)) : bz_K l E mX1_forget 0 [.ref o] L g (fun r g1 => r = none ∧ bz_B L g g1 [(o, b_Hist E o f nw (nI 0))]) := by
  refine bz_K.of (by decide) (bz_le rfl) (fun sz => ?_)
  have hB := bz_B.rf (bz_W.one hH)
  show bz_G _ _ _ _ _ _ _ _ _ _ _ _ 0 [(0, .ref o)] []
  refine g_aload_n (q := 1) dX1_forget_0 rfl rfl ?_
  refine g_iconst (q := 2) (v := (nI 0)) dX1_forget_1 rfl (by decide) ?_
  refine gb_putf (q := 5) (j := 0) (i := 0) dX1_forget_2 rfl fp_X1_18 hB rfl rfl rfl (bz_le rfl) rfl rfl (fun g hB => ?_)
  exact g_vret dX1_forget_5 rfl (⟨rfl, hB⟩)
set_option maxRecDepth 20000 in
set_option maxHeartbeats 1000000 in
theorem c_remember {l : Launch} {E : bz_E} {L : List Nat} {g : Nat → va_E} {o y z n ct : Nat} {f : Nat → Option Nat} {r0 r2 : SR} {σ : Si} (hn : n < 10) (hct : ct ≤ 10) (hf : f (s_nx n) = some z) (hr : s_srep r2 σ) (hW3 : bz_W L g [(o, b_Hist E o f (nI n) (nI ct)), (z, b_Sit E z r0), (y, b_Sit E y r2)]) : bz_K l E mX1_remember 4 [.ref o, .ref y] L g (fun r g1 => r = none ∧ bz_B L g g1 [(o, b_Hist E o f (nI (s_nx n)) (nI (min 10 (ct + 1)))), (z, b_Sit E z (s_cps r0 r2 σ)), (y, b_Sit E y r2)]) := by
  refine bz_K.of (by decide) (bz_le rfl) (fun sz => ?_)
  show bz_G _ _ _ _ _ _ _ _ _ _ _ _ 0 [(0, .ref o), (1, .ref y)] []
  have hap : z + 27 ≤ y ∨ y + 27 ≤ z := by
    have := hW3.2
    unfold bz_ap at this
    exact (List.pairwise_cons.mp (List.pairwise_cons.mp this).2).1 _ List.mem_cons_self
  have hB := bz_B.rf hW3
  have J : bz_G l E mX1_remember (bz_R 4 0 0) L sz (bz_Fm E L sz (fun r g1 => r = none ∧ bz_B L g g1 [(o, b_Hist E o f (nI (s_nx n)) (nI (min 10 (ct + 1)))), (z, b_Sit E z (s_cps r0 r2 σ)), (y, b_Sit E y r2)])) sz 0 0 L g 22 [(0, .ref o), (1, .ref y)] [.int (nI (s_nx n)), .ref o] := by
    refine gb_putf (q := 25) (j := 0) (i := 0) dX1_remember_22 rfl fp_X1_22 hB rfl rfl rfl (bz_le rfl) rfl rfl (fun g hB => ?_)
    refine g_aload_n (q := 26) dX1_remember_25 rfl rfl ?_
    refine gb_callV (q := 29) (j := 0) (i := 0) dX1_remember_26 rfl kv_X1_25 (c_newestBefore (z := z) (s_nx_lt n) hf (hB.1.at (j := 0) rfl)) rfl (by decide) hB rfl rfl rfl rfl (bz_le rfl) (by decide) (by decide) (fun r g1 hQ => ?_)
    obtain ⟨rfl, hg⟩ := hQ
    have hg := hg.symm
    subst hg
    refine g_astore_n (q := 30) rfl dX1_remember_29 rfl (by decide) rfl ?_
    refine g_aload_n (q := 31) dX1_remember_30 rfl rfl ?_
    refine g_ifnull (q := 34) dX1_remember_31 rfl ?_
    refine g_aload_n (q := 35) dX1_remember_34 rfl rfl ?_
    refine g_aload_n (q := 36) dX1_remember_35 rfl rfl ?_
    refine gb_callV (q := 39) (j := 1) (i := 0) dX1_remember_36 rfl kv_X1_29 (c_scopyFrom (σ := σ) (r0 := r0) (r2 := r2) hr (hB.1.at (j := 1) rfl) (hB.1.at (j := 2) rfl) hap) rfl (by decide) hB rfl rfl rfl rfl (bz_le rfl) (by decide) (by decide) (fun r g1 hQ => ?_)
    obtain ⟨rfl, h1⟩ := hQ
    have hB := hB.sp (j := 1) rfl 0 rfl h1 (bz_le rfl)
    refine g_aload_n (q := 40) dX1_remember_39 rfl rfl ?_
    refine g_bipush (q := 42) (v := (nI 10)) dX1_remember_40 rfl (by decide) ?_
    refine g_aload_n (q := 43) dX1_remember_42 rfl rfl ?_
    refine gb_getf (q := 46) (j := 0) (i := 0) dX1_remember_43 rfl fl_X1_18 hB rfl rfl rfl rfl ?_
    refine g_iconst (q := 47) (v := (nI 1)) dX1_remember_46 rfl (by decide) ?_
    refine g_iaddN (q := 48) dX1_remember_47 rfl ?_
    refine g_min (q := 51) dX1_remember_48 rfl kmn_X1_33 (by decide) (bz_le rfl) (by decide) (by decide) ?_
    refine g_eqi (v := nI (min 10 (ct + 1))) (bz_minI (by omega) (by omega)) ?_
    refine gb_putf (q := 54) (j := 0) (i := 0) dX1_remember_51 rfl fp_X1_18 hB rfl rfl rfl (bz_le rfl) rfl rfl (fun g hB => ?_)
    exact g_vret dX1_remember_54 rfl (⟨rfl, hB⟩)
  refine g_aload_n (q := 1) dX1_remember_0 rfl rfl ?_
  refine g_aload_n (q := 2) dX1_remember_1 rfl rfl ?_
  refine gb_getf (q := 5) (j := 0) (i := 0) dX1_remember_2 rfl fl_X1_22 hB rfl rfl rfl rfl ?_
  refine g_iconst (q := 6) (v := (nI 1)) dX1_remember_5 rfl (by decide) ?_
  refine g_iaddN (q := 7) dX1_remember_6 rfl ?_
  refine g_bipush (q := 9) (v := (nI 10)) dX1_remember_7 rfl (by decide) ?_
  refine g_icmpN_ge (q := 12) (t := 21) dX1_remember_9 rfl (by decide) (by omega) (by omega) (fun c_9 => ?_) (fun c_9 => ?_)
  · refine g_iconst (q := 22) (v := (nI 0)) dX1_remember_21 rfl (by decide) ?_
    refine g_lvs (lv1 := [(0, .ref o), (1, .ref y)]) ⟨rfl, rfl, trivial⟩ ?_
    refine g_eqi (v := nI (s_nx n)) (by unfold s_nx; first | (rw [if_pos (by omega)]) | (rw [if_neg (by omega)])) ?_
    exact J
  · refine g_aload_n (q := 13) dX1_remember_12 rfl rfl ?_
    refine gb_getf (q := 16) (j := 0) (i := 0) dX1_remember_13 rfl fl_X1_22 hB rfl rfl rfl rfl ?_
    refine g_iconst (q := 17) (v := (nI 1)) dX1_remember_16 rfl (by decide) ?_
    refine g_iaddN (q := 18) dX1_remember_17 rfl ?_
    refine g_goto (q := 22) dX1_remember_18 (by decide) ?_
    refine g_lvs (lv1 := [(0, .ref o), (1, .ref y)]) ⟨rfl, rfl, trivial⟩ ?_
    refine g_eqi (v := nI (s_nx n)) (by unfold s_nx; first | (rw [if_pos (by omega)]) | (rw [if_neg (by omega)])) ?_
    exact J
set_option maxRecDepth 20000 in
set_option maxHeartbeats 1000000 in
theorem c_takeBack0 {l : Launch} {E : bz_E} {L : List Nat} {g : Nat → va_E} {o y n z : Nat} {f : Nat → Option Nat} (hn : n < 10) (hf : f n = some z) (hH : bz_H L g o (b_Hist E o f (nI n) (nI 0))) : bz_K l E mX1_takeBack 4 [.ref o, .ref y] L g (fun r g1 => r = some (.int (-1)) ∧ g1 = g) := by
  refine bz_K.of (by decide) (bz_le rfl) (fun sz => ?_)
  show bz_G _ _ _ _ _ _ _ _ _ _ _ _ 0 [(0, .ref o), (1, .ref y)] []
  have hB := bz_B.rf (bz_W.one hH)
  refine g_aload_n (q := 1) dX1_takeBack_0 rfl rfl ?_
  refine gb_callV (q := 4) (j := 0) (i := 0) dX1_takeBack_1 rfl kv_X1_25 (c_newestBefore (z := z) hn hf (hB.1.at (j := 0) rfl)) rfl (by decide) hB rfl rfl rfl rfl (bz_le rfl) (by decide) (by decide) (fun r g1 hQ => ?_)
  obtain ⟨rfl, hg⟩ := hQ
  have hg := hg.symm
  subst hg
  refine g_astore_n (q := 5) rfl dX1_takeBack_4 rfl (by decide) rfl ?_
  refine g_aload_n (q := 6) dX1_takeBack_5 rfl rfl ?_
  refine gb_getf (q := 9) (j := 0) (i := 0) dX1_takeBack_6 rfl fl_X1_18 hB rfl rfl rfl rfl ?_
  refine g_ifN_le (q := 12) (t := 16) dX1_takeBack_9 rfl (by decide) (by omega) (fun _ => ?_) (fun c => absurd c (by omega))
  refine g_iconst (q := 17) (v := (-1)) dX1_takeBack_16 rfl (by decide) ?_
  exact g_iret dX1_takeBack_17 rfl (⟨rfl, rfl⟩)
set_option maxRecDepth 20000 in
set_option maxHeartbeats 1000000 in
theorem c_takeBack {l : Launch} {E : bz_E} {L : List Nat} {g : Nat → va_E} {o y z n ct : Nat} {f : Nat → Option Nat} {r0 r2 : SR} {σ : Si} (hn : n < 10) (hct : ct < 10) (hf : f n = some z) (hr : s_srep r0 σ) (hW3 : bz_W L g [(o, b_Hist E o f (nI n) (nI (ct + 1))), (z, b_Sit E z r0), (y, b_Sit E y r2)]) : bz_K l E mX1_takeBack 4 [.ref o, .ref y] L g (fun r g1 => r = some (.int (nI ct)) ∧ bz_B L g g1 [(o, b_Hist E o f (nI (s_pv n)) (nI ct)), (z, b_Sit E z r0), (y, b_Sit E y (s_cps r2 r0 σ))]) := by
  refine bz_K.of (by decide) (bz_le rfl) (fun sz => ?_)
  show bz_G _ _ _ _ _ _ _ _ _ _ _ _ 0 [(0, .ref o), (1, .ref y)] []
  have hap : z + 27 ≤ y ∨ y + 27 ≤ z := by
    have := hW3.2
    unfold bz_ap at this
    exact (List.pairwise_cons.mp (List.pairwise_cons.mp this).2).1 _ List.mem_cons_self
  have hB := bz_B.rf hW3
  have J : ∀ g1 : Nat → va_E, bz_B L g g1 [(o, b_Hist E o f (nI n) (nI (ct + 1))), (z, b_Sit E z r0), (y, b_Sit E y (s_cps r2 r0 σ))] → bz_G l E mX1_takeBack (bz_R 4 0 0) L sz (bz_Fm E L sz (fun r g1 => r = some (.int (nI ct)) ∧ bz_B L g g1 [(o, b_Hist E o f (nI (s_pv n)) (nI ct)), (z, b_Sit E z r0), (y, b_Sit E y (s_cps r2 r0 σ))])) sz 0 0 L g1 42 [(0, .ref o), (1, .ref y)] [.int (nI (s_pv n)), .ref o] := by
    intro g hB
    refine gb_putf (q := 45) (j := 0) (i := 0) dX1_takeBack_42 rfl fp_X1_22 hB rfl rfl rfl (bz_le rfl) rfl rfl (fun g hB => ?_)
    refine g_aload_n (q := 46) dX1_takeBack_45 rfl rfl ?_
    refine g_dup (q := 47) dX1_takeBack_46 rfl rfl ?_
    refine gb_getf (q := 50) (j := 0) (i := 0) dX1_takeBack_47 rfl fl_X1_18 hB rfl rfl rfl rfl ?_
    refine g_iconst (q := 51) (v := (nI 1)) dX1_takeBack_50 rfl (by decide) ?_
    refine g_isubN (q := 52) dX1_takeBack_51 rfl (by omega) ?_
    refine gb_putf (q := 55) (j := 0) (i := 0) dX1_takeBack_52 rfl fp_X1_18 hB rfl rfl rfl (bz_le rfl) rfl rfl (fun g hB => ?_)
    refine g_aload_n (q := 56) dX1_takeBack_55 rfl rfl ?_
    refine gb_getf (q := 59) (j := 0) (i := 0) dX1_takeBack_56 rfl fl_X1_18 hB rfl rfl rfl rfl ?_
    exact g_iret dX1_takeBack_59 rfl (⟨rfl, hB⟩)
  refine g_aload_n (q := 1) dX1_takeBack_0 rfl rfl ?_
  refine gb_callV (q := 4) (j := 0) (i := 0) dX1_takeBack_1 rfl kv_X1_25 (c_newestBefore (z := z) hn hf (hB.1.at (j := 0) rfl)) rfl (by decide) hB rfl rfl rfl rfl (bz_le rfl) (by decide) (by decide) (fun r g1 hQ => ?_)
  obtain ⟨rfl, hg⟩ := hQ
  have hg := hg.symm
  subst hg
  refine g_astore_n (q := 5) rfl dX1_takeBack_4 rfl (by decide) rfl ?_
  refine g_aload_n (q := 6) dX1_takeBack_5 rfl rfl ?_
  refine gb_getf (q := 9) (j := 0) (i := 0) dX1_takeBack_6 rfl fl_X1_18 hB rfl rfl rfl rfl ?_
  refine g_ifN_le (q := 12) (t := 16) dX1_takeBack_9 rfl (by decide) (by omega) (fun c => absurd c (by omega)) (fun _ => ?_)
  refine g_aload_n (q := 13) dX1_takeBack_12 rfl rfl ?_
  refine g_ifnonnull (q := 18) dX1_takeBack_13 (by decide) ?_
  refine g_aload_n (q := 19) dX1_takeBack_18 rfl rfl ?_
  refine g_aload_n (q := 20) dX1_takeBack_19 rfl rfl ?_
  refine gb_callV (q := 23) (j := 2) (i := 0) dX1_takeBack_20 rfl kv_X1_29 (c_scopyFrom (σ := σ) (r0 := r2) (r2 := r0) hr (hB.1.at (j := 2) rfl) (hB.1.at (j := 1) rfl) (by omega)) rfl (by decide) hB rfl rfl rfl rfl (bz_le rfl) (by decide) (by decide) (fun r g1 hQ => ?_)
  obtain ⟨rfl, h1⟩ := hQ
  have hB := hB.sp (j := 2) rfl 0 rfl h1 (bz_le rfl)
  refine g_aload_n (q := 24) dX1_takeBack_23 rfl rfl ?_
  refine g_aload_n (q := 25) dX1_takeBack_24 rfl rfl ?_
  refine gb_getf (q := 28) (j := 0) (i := 0) dX1_takeBack_25 rfl fl_X1_22 hB rfl rfl rfl rfl ?_
  refine g_ifN_le (q := 31) (t := 40) dX1_takeBack_28 rfl (by decide) (by omega) (fun c_28 => ?_) (fun c_28 => ?_)
  · refine g_bipush (q := 42) (v := (nI 9)) dX1_takeBack_40 rfl (by decide) ?_
    refine g_lvs (lv1 := [(0, .ref o), (1, .ref y)]) ⟨rfl, rfl, trivial⟩ ?_
    refine g_eqi (v := nI (s_pv n)) (by unfold s_pv; first | (rw [if_pos (by omega)]) | (rw [if_neg (by omega)])) ?_
    exact J _ hB
  · refine g_aload_n (q := 32) dX1_takeBack_31 rfl rfl ?_
    refine gb_getf (q := 35) (j := 0) (i := 0) dX1_takeBack_32 rfl fl_X1_22 hB rfl rfl rfl rfl ?_
    refine g_iconst (q := 36) (v := (nI 1)) dX1_takeBack_35 rfl (by decide) ?_
    refine g_isubN (q := 37) dX1_takeBack_36 rfl (by omega) ?_
    refine g_goto (q := 42) dX1_takeBack_37 (by decide) ?_
    refine g_lvs (lv1 := [(0, .ref o), (1, .ref y)]) ⟨rfl, rfl, trivial⟩ ?_
    refine g_eqi (v := nI (s_pv n)) (by unfold s_pv; first | (rw [if_pos (by omega)]) | (rw [if_neg (by omega)])) ?_
    exact J _ hB
