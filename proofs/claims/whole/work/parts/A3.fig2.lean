/-! the figures' bounds; the reference's figures -/
def s_fbp (t : Nat) (P : Po) : Prop := P.2.2.2.2.1 ≤ t ∧ P.2.2.2.2.2.2 ≤ P.2.2.2.2.1 * t
def s_fb (σ : Si) : Prop := s_fbp σ.1 σ.2.1 ∧ s_fbp σ.1 σ.2.2
theorem s_fwd_st {tb cr : Nat → Nat} {l : List Int32} {now : Nat} {P P1 : Po} : ((s_fwd tb cr l now P P1).2.1.2.2.2.2.1 ≤ P.2.2.2.2.1 + 1 ∧ ((s_fwd tb cr l now P P1).2.1.2.2.2.2 = P.2.2.2.2 ∨ ((s_fwd tb cr l now P P1).2.1.2.2.2.2.1 = P.2.2.2.2.1 + 1 ∧ (s_fwd tb cr l now P P1).2.1.2.2.2.2.2.2 ≤ P.2.2.2.2.2.2 + now))) ∧ (s_fwd tb cr l now P P1).2.2.2.2.2.2 = P1.2.2.2.2 := by
  unfold s_fwd
  split
  · exact ⟨⟨by show P.2.2.2.2.1 ≤ _; omega, Or.inl rfl⟩, rfl⟩
  · split
    · exact ⟨⟨by show P.2.2.2.2.1 ≤ _; omega, Or.inl rfl⟩, rfl⟩
    · rename_i x _
      exact ⟨⟨Nat.le_refl _, Or.inr ⟨rfl, by show P.2.2.2.2.2.2 + (now - tM x) ≤ _; omega⟩⟩, rfl⟩
theorem s_fbp.up {t : Nat} {P Q : Po} (h : s_fbp t P) (hq : Q.2.2.2.2.1 ≤ P.2.2.2.2.1 + 1 ∧ (Q.2.2.2.2 = P.2.2.2.2 ∨ (Q.2.2.2.2.1 = P.2.2.2.2.1 + 1 ∧ Q.2.2.2.2.2.2 ≤ P.2.2.2.2.2.2 + (t + 1)))) : s_fbp (t + 1) Q := by
  obtain ⟨h1, h2⟩ := h
  obtain ⟨q1, q2⟩ := hq
  have hm : P.2.2.2.2.1 * (t + 1) = P.2.2.2.2.1 * t + P.2.2.2.2.1 := Nat.mul_succ _ _
  rcases q2 with e | ⟨e1, e2⟩
  · unfold s_fbp
    rw [e]
    exact ⟨by omega, by omega⟩
  · refine ⟨by omega, ?_⟩
    rw [e1, Nat.succ_mul]
    omega
theorem s_fb.tick {pl : Pl} {σ : Si} (h : s_fb σ) : s_fb (s_tick pl σ) := by
  have f0 := s_fwd_st (tb := pl.2.2.1) (cr := fun k => pl.2.1 (4 + k)) (l := pl.2.2.2.2.2.2.2) (now := σ.1 + 1) (P := (s_t1 pl σ).2.1) (P1 := (s_t1 pl σ).2.2)
  have f1 := s_fwd_st (tb := pl.2.2.1) (cr := fun k => pl.2.1 (0 + k)) (l := pl.2.2.2.2.2.2.1) (now := σ.1 + 1) (P := (s_f0 pl (s_t1 pl σ)).2.2.2) (P1 := (s_f0 pl (s_t1 pl σ)).2.2.1)
  have e0 : (s_tick pl σ).2.1.2.2.2.2 = (s_f0 pl (s_t1 pl σ)).2.2.1.2.2.2.2 := f1.2
  have e1 : (s_f0 pl (s_t1 pl σ)).2.2.2.2.2.2.2 = σ.2.2.2.2.2.2 := f0.2
  have hf : (s_tick pl σ).1 = σ.1 + 1 := rfl
  unfold s_fb
  rw [hf]
  constructor
  · have k := s_fbp.up (Q := (s_f0 pl (s_t1 pl σ)).2.2.1) h.1 f0.1
    unfold s_fbp at k ⊢
    rw [e0]
    exact k
  · refine s_fbp.up h.2 ?_
    have k := f1.1
    rw [e1] at k
    exact k
theorem s_fb.run {pl : Pl} : ∀ (n : Nat) {σ : Si}, s_fb σ → s_fb (s_run pl n σ)
  | 0, _, h => h
  | n + 1, _, h => s_fb.run n h.tick
theorem s_fb.pt {σ : Si} {s : Nat} {P : Po} (h : s_fb σ) (hP : P.2.2.2.2 = (s_sd s σ).2.2.2.2) : s_fb (s_pt s σ P) := by
  unfold s_sd at hP
  unfold s_pt
  by_cases hs : s = 0
  · rw [if_pos hs] at hP ⊢
    refine ⟨?_, h.2⟩
    unfold s_fbp
    rw [hP]
    exact h.1
  · rw [if_neg hs] at hP ⊢
    refine ⟨h.1, ?_⟩
    unfold s_fbp
    rw [hP]
    exact h.2
theorem s_fb.like {σ τ : Si} (h : s_fb σ) (hl : s_like σ τ) : s_fb τ := by
  obtain ⟨m0, m1, rfl⟩ := hl
  exact h
theorem s_fb.bd {σ : Si} (h : s_fb σ) (ht : σ.1 ≤ 9999) : (∀ s, s < 2 → (s_sd s σ).2.2.2.2.1 < 2147483648) ∧ ∀ s, s < 2 → (s_sd s σ).2.2.2.2.2.2 < 2147483648 := by
  have key : ∀ P : Po, s_fbp σ.1 P → P.2.2.2.2.1 < 2147483648 ∧ P.2.2.2.2.2.2 < 2147483648 := fun P hp => by
    have := Nat.mul_le_mul (Nat.le_trans hp.1 ht) ht
    have := hp.1
    have := hp.2
    omega
  have k0 := key _ h.1
  have k1 := key _ h.2
  constructor
  · intro s hs
    unfold s_sd
    split
    · exact k0.1
    · exact k1.1
  · intro s hs
    unfold s_sd
    split
    · exact k0.2
    · exact k1.2
theorem g_f2ri {l : Launch} {E : bz_E} {M : bz_M} {R : Room} {L0 : List Nat} {z0 : Nat} {Fn : bz_F} {sz k n : Nat} {L : List Nat} {g : Nat → va_E} {pc q : Nat} {lv : List (Nat × Value)} {x : UInt32} (hd : decode M.2.1 pc = .ok (.invokestatic 74, 3)) (hq : pc + 3 = q) (hM : M.1.cls = RJxf58ca) (hR : 1 ≤ R.frames) (hl : 15 ≤ R.locals) (kk : bz_G l E M R L0 z0 Fn sz k n L g q lv [.int x.toInt32]) : bz_G l E M R L0 z0 Fn sz k n L g pc lv [.float x] := by
  subst hq
  intro p e s m args below meth c H locs ls C hz hP hD hS hl0
  have hts := C.2.2.2.2.2.1
  exact vn_f2i (own := RJxf58ca) C.1 C.2.1 (C.2.2.2.1.trans hl0.1.symm) (by rw [← hM]; exact C.2.2.2.2.1) (hts _ (bz_mw 1542 (by decide +kernel))) (hts _ (bz_mw 1544 (by decide +kernel))) (hts _ (bz_mw 1543 (by decide +kernel))) (hts _ (bz_mw 106 (by decide +kernel))) hR hl hd (kk p e s m args below meth c H locs ls C hz hP hD hS hl0)

theorem bz_ofWF {l : Launch} {y : MethodName} {ws ws' : List Cond} {rm : Room} {Pc : Array Value → State → Prop} {Qc : Array Value → State → Outcome → State → Prop} {mc ms : Nat} {free : Addr → Prop} {cc : ByteArray} {maxL : Nat} {ret : Option FieldType}
    (hy : plainFor y = true) (hw : ws = Cond.code y cc maxL ret :: ws')
    (body : ∀ p e s m args below meth c s₁, BodyLoose p l y (headSpec ws rm) cc maxL ret e s m args below meth c s₁ → c.maxLocals = maxL → Pc args s →
      W p l e (headSpec ws rm).room s m args below meth c s.heap [] 0 0 (MQ below Qc args s mc ms free) (entryFrame m args maxL)) : Met l y ws rm Pc Qc mc ms free := by
  refine MetFree.of_bodySF (code := cc) (maxLocals := maxL) (ret := ret) hy ?_ ?_
  · intro args s m h hn
    obtain ⟨meth, c, h1, h2, h3, h4, h5, h6, -, -⟩ := Cond.code_spec hn (atoms_spec (ws := ws) h _ (by rw [hw]; exact List.mem_cons_self))
    exact ⟨meth, c, h1, h2, h3, h4, h5, h6⟩
  · intro p e s m args below meth c s₁ B hml hP _
    have hh0 : s₁.heap = s.heap := by rw [B.state]; rfl
    obtain ⟨t, a1, o, b1, b2, b3⟩ := body p e s m args below meth c s₁ B hml hP s₁ hh0 (Stand.of_body B)
    exact ⟨t, o, a1, b1, b2, ⟨b3.1, b3.2⟩⟩
theorem bz_K.ofF {l : Launch} {E : bz_E} {M : bz_M} {d : Nat} {av : List Value} {L : List Nat} {g : Nat → va_E} {Q : Option Value → (Nat → va_E) → Prop} (hp : plainFor M.1 = true) (hn : (lg_sl av).length ≤ M.2.2.1)
    (h : ∀ sz : Nat, bz_G l E M (bz_R d 0 0) L sz (bz_Fm E L sz Q) sz 0 0 L g 0 (lv_args 0 av) []) (ht : bz_hh M = some [] := by decide +kernel) : bz_K l E M d av L g Q := by
  intro sz
  refine bz_ofWF (cc := M.2.1) (maxL := M.2.2.1) (ret := M.2.2.2) (ws' := bz_tbl) hp rfl ?_
  intro p e s m args below meth c s1 B hml hv
  obtain ⟨rfl, hsz, hP, hK, hD, hN, hZ⟩ := hv
  have hts := atoms_spec (ws := bz_ws M) B.pre
  have hl := lv_entry av hn
  rw [lg_entry_eq]
  refine h sz p e s m _ below meth c s.heap [] _ ⟨B.exec, B.bytes, B.returns, hml, findClass_of_methodNamed B.named, fun w hw => hts w (List.mem_cons_of_mem _ hw), hK, B.notSynchronized, (name_of_methodNamed B.named B.method).1, hsz, hN, hZ, fun t h => bz_tb0 hts (ht.symm.trans h) B⟩ hsz hP (bz_plA hD (fun a ha => Or.inl ha)) va_S.rf ⟨hl.1, hl.2.1, fun i v hv => hl.2.2 (i, v) (bz_mem hv)⟩

set_option maxRecDepth 20000 in
set_option maxHeartbeats 1000000 in
theorem c_isNaN {l : Launch} {E : bz_E} {L : List Nat} {g : Nat → va_E} {x : UInt32} (hx : FP.fcmp x x = some .eq) : bz_K l E mJxf58ca_isNaN_12338 0 [.float x] L g (fun r g1 => r = some (.int (nI 0)) ∧ g1 = g) := by
  refine bz_K.ofF (by decide +kernel) (bz_le rfl) (fun sz => ?_)
  show bz_G _ _ _ _ _ _ _ _ _ _ _ _ 0 [(0, .float x)] []
  refine g_fload_n (q := 1) dJxf58ca_isNaN_12338_0 rfl rfl ?_
  refine g_fload_n (q := 2) dJxf58ca_isNaN_12338_1 rfl rfl ?_
  refine g_fcmp (q := 3) dJxf58ca_isNaN_12338_2 rfl ?_
  refine g_eqi (v := 0) (by rw [hx]; rfl) ?_
  refine g_if_eq (q := 6) (t := 10) dJxf58ca_isNaN_12338_3 rfl (by decide) (fun _ => ?_) (fun c => absurd (rfl) c)
  refine g_iconst (q := 11) (v := (nI 0)) dJxf58ca_isNaN_12338_10 rfl (by decide) ?_
  exact g_zret dJxf58ca_isNaN_12338_11 rfl rfl ⟨rfl, rfl⟩
set_option maxRecDepth 20000 in
set_option maxHeartbeats 1000000 in
theorem c_f2ib {l : Launch} {E : bz_E} {L : List Nat} {g : Nat → va_E} {x : UInt32} (hx : FP.fcmp x x = some .eq) : bz_K l E mJxf58ca_floatToIntBits_5c35a 1 [.float x] L g (fun r g1 => r = some (.int x.toInt32) ∧ g1 = g) := by
  refine bz_K.ofF (by decide +kernel) (bz_le rfl) (fun sz => ?_)
  show bz_G _ _ _ _ _ _ _ _ _ _ _ _ 0 [(0, .float x)] []
  refine g_fload_n (q := 1) dJxf58ca_floatToIntBits_5c35a_0 rfl rfl ?_
  refine g_callS (q := 4) dJxf58ca_floatToIntBits_5c35a_1 rfl ks_Jxf58ca_59 rfl (c_isNaN hx) (by decide) rfl (bz_le rfl) (by decide) (by decide) (fun r g1 hQ => ?_)
  obtain ⟨rfl, hg⟩ := hQ
  have hg := hg.symm
  subst hg
  refine g_ifN_ne (q := 7) (t := 12) dJxf58ca_floatToIntBits_5c35a_4 rfl (by decide) (by omega) (fun c => absurd c (by omega)) (fun _ => ?_)
  refine g_fload_n (q := 8) dJxf58ca_floatToIntBits_5c35a_7 rfl rfl ?_
  refine g_f2ri (q := 11) dJxf58ca_floatToIntBits_5c35a_8 rfl rfl (by decide) (by decide) ?_
  skip
  exact g_iret dJxf58ca_floatToIntBits_5c35a_11 rfl (⟨rfl, rfl⟩)
set_option maxRecDepth 20000 in
set_option maxHeartbeats 1000000 in
theorem c_mwaitOf {l : Launch} {E : bz_E} {L : List Nat} {g : Nat → va_E} {o : Nat} {I : Nat → Int32} {A : Nat → Nat → Int32} {s n w : Nat} (hs : s < 2) (hn0 : A 1 (5 + s) = nI n) (hw0 : A 1 (9 + s) = nI w) (hn : n < 2147483648) (hw : w < 2147483648) (hH : bz_H L g o (b_Mod E o I A)) : bz_K l E mX9_waitOf 0 [.ref o, .int (nI s)] L g (fun r g1 => r = some (.float (f_w w n)) ∧ g1 = g) := by
  refine bz_K.of (by decide) (bz_le rfl) (fun sz => ?_)
  have hB := bz_B.rf (bz_W.one hH)
  show bz_G _ _ _ _ _ _ _ _ _ _ _ _ 0 [(0, .ref o), (1, .int (nI s))] []
  refine g_aload_n (q := 1) dX9_waitOf_0 rfl rfl ?_
  refine gb_getf (q := 4) (j := 0) (i := 0) dX9_waitOf_1 rfl fl_X9_7 hB rfl rfl rfl rfl ?_
  refine g_iconst (q := 5) (v := (nI 5)) dX9_waitOf_4 rfl (by decide) ?_
  refine g_iload_n (q := 6) dX9_waitOf_5 rfl rfl ?_
  refine g_iaddN (q := 7) dX9_waitOf_6 rfl ?_
  refine gb_ialdN (q := 8) (j := 0) (i := 1) dX9_waitOf_7 rfl hB rfl rfl rfl (by omega) (by decide) ?_
  refine g_eqi (v := nI (n)) (hn0) ?_
  refine g_ifN_ne (q := 11) (t := 15) dX9_waitOf_8 rfl (by decide) hn (fun c_8 => ?_) (fun c_8 => ?_)
  · refine g_aload_n (q := 16) dX9_waitOf_15 rfl rfl ?_
    refine gb_getf (q := 19) (j := 0) (i := 0) dX9_waitOf_16 rfl fl_X9_7 hB rfl rfl rfl rfl ?_
    refine g_bipush (q := 21) (v := (nI 9)) dX9_waitOf_19 rfl (by decide) ?_
    refine g_iload_n (q := 22) dX9_waitOf_21 rfl rfl ?_
    refine g_iaddN (q := 23) dX9_waitOf_22 rfl ?_
    refine gb_ialdN (q := 24) (j := 0) (i := 1) dX9_waitOf_23 rfl hB rfl rfl rfl (by omega) (by decide) ?_
    refine g_eqi (v := nI (w)) (hw0) ?_
    refine g_i2f (q := 25) dX9_waitOf_24 rfl ?_
    refine g_aload_n (q := 26) dX9_waitOf_25 rfl rfl ?_
    refine gb_getf (q := 29) (j := 0) (i := 0) dX9_waitOf_26 rfl fl_X9_7 hB rfl rfl rfl rfl ?_
    refine g_iconst (q := 30) (v := (nI 5)) dX9_waitOf_29 rfl (by decide) ?_
    refine g_iload_n (q := 31) dX9_waitOf_30 rfl rfl ?_
    refine g_iaddN (q := 32) dX9_waitOf_31 rfl ?_
    refine gb_ialdN (q := 33) (j := 0) (i := 1) dX9_waitOf_32 rfl hB rfl rfl rfl (by omega) (by decide) ?_
    refine g_eqi (v := nI (n)) (hn0) ?_
    refine g_i2f (q := 34) dX9_waitOf_33 rfl ?_
    refine g_fdiv (q := 35) dX9_waitOf_34 rfl (f_w_div hw hn (Nat.pos_of_ne_zero c_8)).n32 ?_
    exact g_fret dX9_waitOf_35 rfl (⟨by unfold f_w; first | rw [if_pos c_8] | rw [if_neg c_8], rfl⟩)
  · refine g_fconst0 (q := 12) dX9_waitOf_11 rfl ?_
    refine g_goto (q := 35) dX9_waitOf_12 (by decide) ?_
    exact g_fret dX9_waitOf_35 rfl (⟨by unfold f_w; first | rw [if_pos c_8] | rw [if_neg c_8], rfl⟩)
set_option maxRecDepth 20000 in
set_option maxHeartbeats 1000000 in
theorem c_maverageWait1 {l : Launch} {E : bz_E} {L : List Nat} {g : Nat → va_E} {o : Nat} {I : Nat → Int32} {A : Nat → Nat → Int32} {v : Int32} (hb : m_bad v 2 = true) (hH : bz_H L g o (b_Mod E o I A)) : bz_K l E mX9_averageWait 3 [.ref o, .int v] L g (fun r g1 => r = some (.float 0) ∧ bz_B L g g1 [(o, b_Mod E o (va_up I 0 (nI 1)) A)]) := by
  refine bz_K.of (by decide) (bz_le rfl) (fun sz => ?_)
  have hB := bz_B.rf (bz_W.one hH)
  show bz_G _ _ _ _ _ _ _ _ _ _ _ _ 0 [(0, .ref o), (1, .int v)] []
  refine g_aload_n (q := 1) dX9_averageWait_0 rfl rfl ?_
  refine g_iload_n (q := 2) dX9_averageWait_1 rfl rfl ?_
  refine gb_callV (q := 5) (j := 0) (i := 0) dX9_averageWait_2 rfl kv_X9_227 (c_mnoSide1 hb (hB.1.at (j := 0) rfl)) rfl (by decide) hB rfl rfl rfl rfl (bz_le rfl) (by decide) (by decide) (fun r g1 hQ => ?_)
  obtain ⟨rfl, h1⟩ := hQ
  have hB := hB.sp (j := 0) rfl 0 rfl h1 (bz_le rfl)
  refine g_ifN_eq (q := 8) (t := 12) dX9_averageWait_5 rfl (by decide) (by omega) (fun c => absurd c (by omega)) (fun _ => ?_)
  refine g_fconst0 (q := 9) dX9_averageWait_8 rfl ?_
  refine g_goto (q := 17) dX9_averageWait_9 (by decide) ?_
  exact g_fret dX9_averageWait_17 rfl (⟨rfl, hB⟩)
set_option maxRecDepth 20000 in
set_option maxHeartbeats 1000000 in
theorem c_maverageWait0 {l : Launch} {E : bz_E} {L : List Nat} {g : Nat → va_E} {o : Nat} {I : Nat → Int32} {A : Nat → Nat → Int32} {s n w : Nat} (hs : s < 2) (hn0 : A 1 (5 + s) = nI n) (hw0 : A 1 (9 + s) = nI w) (hn : n < 2147483648) (hw : w < 2147483648) (hH : bz_H L g o (b_Mod E o I A)) : bz_K l E mX9_averageWait 3 [.ref o, .int (nI s)] L g (fun r g1 => r = some (.float (f_w w n)) ∧ bz_B L g g1 [(o, b_Mod E o (va_up I 0 (nI 0)) A)]) := by
  refine bz_K.of (by decide) (bz_le rfl) (fun sz => ?_)
  have hB := bz_B.rf (bz_W.one hH)
  show bz_G _ _ _ _ _ _ _ _ _ _ _ _ 0 [(0, .ref o), (1, .int (nI s))] []
  refine g_aload_n (q := 1) dX9_averageWait_0 rfl rfl ?_
  refine g_iload_n (q := 2) dX9_averageWait_1 rfl rfl ?_
  refine gb_callV (q := 5) (j := 0) (i := 0) dX9_averageWait_2 rfl kv_X9_227 (c_mnoSide0 hs (hB.1.at (j := 0) rfl)) rfl (by decide) hB rfl rfl rfl rfl (bz_le rfl) (by decide) (by decide) (fun r g1 hQ => ?_)
  obtain ⟨rfl, h1⟩ := hQ
  have hB := hB.sp (j := 0) rfl 0 rfl h1 (bz_le rfl)
  refine g_ifN_eq (q := 8) (t := 12) dX9_averageWait_5 rfl (by decide) (by omega) (fun _ => ?_) (fun c => absurd c (by omega))
  refine g_aload_n (q := 13) dX9_averageWait_12 rfl rfl ?_
  refine g_iload_n (q := 14) dX9_averageWait_13 rfl rfl ?_
  refine gb_callV (q := 17) (j := 0) (i := 0) dX9_averageWait_14 rfl kv_X9_258 (c_mwaitOf hs hn0 hw0 hn hw (hB.1.at (j := 0) rfl)) rfl (by decide) hB rfl rfl rfl rfl (bz_le rfl) (by decide) (by decide) (fun r g1 hQ => ?_)
  obtain ⟨rfl, hg⟩ := hQ
  have hg := hg.symm
  subst hg
  exact g_fret dX9_averageWait_17 rfl (⟨rfl, hB⟩)
set_option maxRecDepth 20000 in
set_option maxHeartbeats 1000000 in
theorem c_mutilisation1 {l : Launch} {E : bz_E} {L : List Nat} {g : Nat → va_E} {o : Nat} {I : Nat → Int32} {A : Nat → Nat → Int32} {v : Int32} (hb : m_bad v 2 = true) (hH : bz_H L g o (b_Mod E o I A)) : bz_K l E mX9_utilisation 3 [.ref o, .int v] L g (fun r g1 => r = some (.double 0) ∧ bz_B L g g1 [(o, b_Mod E o (va_up I 0 (nI 1)) A)]) := by
  refine bz_K.of (by decide) (bz_le rfl) (fun sz => ?_)
  have hB := bz_B.rf (bz_W.one hH)
  show bz_G _ _ _ _ _ _ _ _ _ _ _ _ 0 [(0, .ref o), (1, .int v)] []
  refine g_aload_n (q := 1) dX9_utilisation_0 rfl rfl ?_
  refine g_iload_n (q := 2) dX9_utilisation_1 rfl rfl ?_
  refine gb_callV (q := 5) (j := 0) (i := 0) dX9_utilisation_2 rfl kv_X9_227 (c_mnoSide1 hb (hB.1.at (j := 0) rfl)) rfl (by decide) hB rfl rfl rfl rfl (bz_le rfl) (by decide) (by decide) (fun r g1 hQ => ?_)
  obtain ⟨rfl, h1⟩ := hQ
  have hB := hB.sp (j := 0) rfl 0 rfl h1 (bz_le rfl)
  refine g_ifN_ne (q := 8) (t := 17) dX9_utilisation_5 rfl (by decide) (by omega) (fun _ => ?_) (fun c => absurd c (by omega))
  refine g_dconst0 (q := 18) dX9_utilisation_17 rfl ?_
  refine g_goto (q := 38) dX9_utilisation_18 (by decide) ?_
  exact g_dret dX9_utilisation_38 rfl (⟨rfl, hB⟩)
set_option maxRecDepth 20000 in
set_option maxHeartbeats 1000000 in
theorem c_mutilisation0 {l : Launch} {E : bz_E} {L : List Nat} {g : Nat → va_E} {o : Nat} {I : Nat → Int32} {A : Nat → Nat → Int32} {s n t : Nat} (hs : s < 2) (hn0 : A 1 (5 + s) = nI n) (ht0 : A 1 0 = nI t) (hn : n < 2147483648) (ht : t < 2147483648) (hH : bz_H L g o (b_Mod E o I A)) : bz_K l E mX9_utilisation 3 [.ref o, .int (nI s)] L g (fun r g1 => r = some (.double (d_u n t)) ∧ bz_B L g g1 [(o, b_Mod E o (va_up I 0 (nI 0)) A)]) := by
  refine bz_K.of (by decide) (bz_le rfl) (fun sz => ?_)
  have hB := bz_B.rf (bz_W.one hH)
  show bz_G _ _ _ _ _ _ _ _ _ _ _ _ 0 [(0, .ref o), (1, .int (nI s))] []
  refine g_aload_n (q := 1) dX9_utilisation_0 rfl rfl ?_
  refine g_iload_n (q := 2) dX9_utilisation_1 rfl rfl ?_
  refine gb_callV (q := 5) (j := 0) (i := 0) dX9_utilisation_2 rfl kv_X9_227 (c_mnoSide0 hs (hB.1.at (j := 0) rfl)) rfl (by decide) hB rfl rfl rfl rfl (bz_le rfl) (by decide) (by decide) (fun r g1 hQ => ?_)
  obtain ⟨rfl, h1⟩ := hQ
  have hB := hB.sp (j := 0) rfl 0 rfl h1 (bz_le rfl)
  refine g_ifN_ne (q := 8) (t := 17) dX9_utilisation_5 rfl (by decide) (by omega) (fun c => absurd c (by omega)) (fun _ => ?_)
  refine g_aload_n (q := 9) dX9_utilisation_8 rfl rfl ?_
  refine gb_getf (q := 12) (j := 0) (i := 0) dX9_utilisation_9 rfl fl_X9_7 hB rfl rfl rfl rfl ?_
  refine g_iconst (q := 13) (v := (nI 0)) dX9_utilisation_12 rfl (by decide) ?_
  refine gb_ialdN (q := 14) (j := 0) (i := 1) dX9_utilisation_13 rfl hB rfl rfl rfl (by omega) (by decide) ?_
  refine g_eqi (v := nI (t)) (ht0) ?_
  refine g_ifN_ne (q := 17) (t := 21) dX9_utilisation_14 rfl (by decide) ht (fun c_14 => ?_) (fun c_14 => ?_)
  · refine g_aload_n (q := 22) dX9_utilisation_21 rfl rfl ?_
    refine gb_getf (q := 25) (j := 0) (i := 0) dX9_utilisation_22 rfl fl_X9_7 hB rfl rfl rfl rfl ?_
    refine g_iconst (q := 26) (v := (nI 5)) dX9_utilisation_25 rfl (by decide) ?_
    refine g_iload_n (q := 27) dX9_utilisation_26 rfl rfl ?_
    refine g_iaddN (q := 28) dX9_utilisation_27 rfl ?_
    refine gb_ialdN (q := 29) (j := 0) (i := 1) dX9_utilisation_28 rfl hB rfl rfl rfl (by omega) (by decide) ?_
    refine g_eqi (v := nI (n)) (hn0) ?_
    refine g_i2d (q := 30) dX9_utilisation_29 rfl ?_
    refine g_aload_n (q := 31) dX9_utilisation_30 rfl rfl ?_
    refine gb_getf (q := 34) (j := 0) (i := 0) dX9_utilisation_31 rfl fl_X9_7 hB rfl rfl rfl rfl ?_
    refine g_iconst (q := 35) (v := (nI 0)) dX9_utilisation_34 rfl (by decide) ?_
    refine gb_ialdN (q := 36) (j := 0) (i := 1) dX9_utilisation_35 rfl hB rfl rfl rfl (by omega) (by decide) ?_
    refine g_eqi (v := nI (t)) (ht0) ?_
    refine g_i2d (q := 37) dX9_utilisation_36 rfl ?_
    refine g_ddiv (q := 38) dX9_utilisation_37 rfl (d_u_div hn ht (Nat.pos_of_ne_zero c_14)).n64 ?_
    exact g_dret dX9_utilisation_38 rfl (⟨by unfold d_u; first | rw [if_pos c_14] | rw [if_neg c_14], hB⟩)
  · refine g_dconst0 (q := 18) dX9_utilisation_17 rfl ?_
    refine g_goto (q := 38) dX9_utilisation_18 (by decide) ?_
    exact g_dret dX9_utilisation_38 rfl (⟨by unfold d_u; first | rw [if_pos c_14] | rw [if_neg c_14], hB⟩)
set_option maxRecDepth 20000 in
set_option maxHeartbeats 1000000 in
theorem c_mratioBits {l : Launch} {E : bz_E} {L : List Nat} {g : Nat → va_E} {o : Nat} {I : Nat → Int32} {A : Nat → Nat → Int32} {n0 w0 n1 w1 : Nat} (hn00 : A 1 (5 + 0) = nI n0) (hw00 : A 1 (9 + 0) = nI w0) (hn0 : n0 < 2147483648) (hw0 : w0 < 2147483648) (hn01 : A 1 (5 + 1) = nI n1) (hw01 : A 1 (9 + 1) = nI w1) (hn1 : n1 < 2147483648) (hw1 : w1 < 2147483648) (hH : bz_H L g o (b_Mod E o I A)) : bz_K l E mX9_ratioBits 2 [.ref o] L g (fun r g1 => r = some (.int (f_rb (f_w w0 n0) (f_w w1 n1))) ∧ bz_B L g g1 [(o, b_Mod E o (va_up I 0 (nI 0)) A)]) := by
  refine bz_K.of (by decide) (bz_le rfl) (fun sz => ?_)
  have hB := bz_B.rf (bz_W.one hH)
  show bz_G _ _ _ _ _ _ _ _ _ _ _ _ 0 [(0, .ref o)] []
  have h0 := f_w_z hw0 hn0
  have h1 := f_w_z hw1 hn1
  by_cases hx : f_w w1 n1 = 0
  · refine g_aload_n (q := 1) dX9_ratioBits_0 rfl rfl ?_
    refine g_iconst (q := 2) (v := (nI 0)) dX9_ratioBits_1 rfl (by decide) ?_
    refine gb_putf (q := 5) (j := 0) (i := 0) dX9_ratioBits_2 rfl fp_X9_70 hB rfl rfl rfl (bz_le rfl) rfl rfl (fun g hB => ?_)
    refine g_aload_n (q := 6) dX9_ratioBits_5 rfl rfl ?_
    refine g_iconst (q := 7) (v := (nI 1)) dX9_ratioBits_6 rfl (by decide) ?_
    refine gb_callV (q := 10) (j := 0) (i := 0) dX9_ratioBits_7 rfl kv_X9_258 (c_mwaitOf (I := va_up I 0 (nI 0)) (A := A) (s := 1) (by decide) hn01 hw01 hn1 hw1 (hB.1.at (j := 0) rfl)) rfl (by decide) hB rfl rfl rfl rfl (bz_le rfl) (by decide) (by decide) (fun r g1 hQ => ?_)
    obtain ⟨rfl, hg⟩ := hQ
    have hg := hg.symm
    subst hg
    refine g_fconst0 (q := 11) dX9_ratioBits_10 rfl ?_
    refine g_fcmp (q := 12) dX9_ratioBits_11 rfl ?_
    refine g_eqi (v := 0) (by rw [hx, f_cmp00]; rfl) ?_
    refine g_if_ne (q := 15) (t := 19) dX9_ratioBits_12 rfl (by decide) (fun c => absurd c (fun h => h rfl)) (fun _ => ?_)
    refine g_iconst (q := 16) (v := (nI 0)) dX9_ratioBits_15 rfl (by decide) ?_
    refine g_goto (q := 33) dX9_ratioBits_16 (by decide) ?_
    exact g_iret dX9_ratioBits_33 rfl (⟨by unfold f_rb; rw [if_pos hx], hB⟩)
  · have hrz := f_r_z h0 h1 hx
    refine g_aload_n (q := 1) dX9_ratioBits_0 rfl rfl ?_
    refine g_iconst (q := 2) (v := (nI 0)) dX9_ratioBits_1 rfl (by decide) ?_
    refine gb_putf (q := 5) (j := 0) (i := 0) dX9_ratioBits_2 rfl fp_X9_70 hB rfl rfl rfl (bz_le rfl) rfl rfl (fun g hB => ?_)
    refine g_aload_n (q := 6) dX9_ratioBits_5 rfl rfl ?_
    refine g_iconst (q := 7) (v := (nI 1)) dX9_ratioBits_6 rfl (by decide) ?_
    refine gb_callV (q := 10) (j := 0) (i := 0) dX9_ratioBits_7 rfl kv_X9_258 (c_mwaitOf (I := va_up I 0 (nI 0)) (A := A) (s := 1) (by decide) hn01 hw01 hn1 hw1 (hB.1.at (j := 0) rfl)) rfl (by decide) hB rfl rfl rfl rfl (bz_le rfl) (by decide) (by decide) (fun r g1 hQ => ?_)
    obtain ⟨rfl, hg⟩ := hQ
    have hg := hg.symm
    subst hg
    refine g_fconst0 (q := 11) dX9_ratioBits_10 rfl ?_
    refine g_fcmp (q := 12) dX9_ratioBits_11 rfl ?_
    refine g_eqi (v := 1) (by rw [h1.ne0 hx]; rfl) ?_
    refine g_if_ne (q := 15) (t := 19) dX9_ratioBits_12 rfl (by decide) (fun _ => ?_) (fun c => absurd c (by decide))
    refine g_aload_n (q := 20) dX9_ratioBits_19 rfl rfl ?_
    refine g_iconst (q := 21) (v := (nI 0)) dX9_ratioBits_20 rfl (by decide) ?_
    refine gb_callV (q := 24) (j := 0) (i := 0) dX9_ratioBits_21 rfl kv_X9_258 (c_mwaitOf (I := va_up I 0 (nI 0)) (A := A) (s := 0) (by decide) hn00 hw00 hn0 hw0 (hB.1.at (j := 0) rfl)) rfl (by decide) hB rfl rfl rfl rfl (bz_le rfl) (by decide) (by decide) (fun r g1 hQ => ?_)
    obtain ⟨rfl, hg⟩ := hQ
    have hg := hg.symm
    subst hg
    refine g_aload_n (q := 25) dX9_ratioBits_24 rfl rfl ?_
    refine g_iconst (q := 26) (v := (nI 1)) dX9_ratioBits_25 rfl (by decide) ?_
    refine gb_callV (q := 29) (j := 0) (i := 0) dX9_ratioBits_26 rfl kv_X9_258 (c_mwaitOf (I := va_up I 0 (nI 0)) (A := A) (s := 1) (by decide) hn01 hw01 hn1 hw1 (hB.1.at (j := 0) rfl)) rfl (by decide) hB rfl rfl rfl rfl (bz_le rfl) (by decide) (by decide) (fun r g1 hQ => ?_)
    obtain ⟨rfl, hg⟩ := hQ
    have hg := hg.symm
    subst hg
    refine g_fdiv (q := 30) dX9_ratioBits_29 rfl hrz.n32 ?_
    refine g_callS (q := 33) dX9_ratioBits_30 rfl ks_X9_262 rfl (c_f2ib hrz.cmps) (by decide) rfl (bz_le rfl) (by decide) (by decide) (fun r g1 hQ => ?_)
    obtain ⟨rfl, hg⟩ := hQ
    have hg := hg.symm
    subst hg
    exact g_iret dX9_ratioBits_33 rfl (⟨by unfold f_rb; rw [if_neg hx], hB⟩)
