/-! THE LAW'S HELPERS: they catch what the class throws (bz_KH); calls in any room; the script -/
abbrev bz_HT : Type := List (Nat × Nat × Nat × Nat)
def bz_wsH (M : bz_M) (t : bz_HT) : List Cond := Cond.codeWith M.1 M.2.1 M.2.2.1 M.2.2.2 t :: bz_tbl
def bz_QcH (E : bz_E) (L : List Nat) (sz : Nat) (Q : Option Value → (Nat → va_E) → Prop) : Array Value → State → Outcome → State → Prop := fun _ st oc t => ∃ (r : Option Value) (g1 : Nat → va_E), oc = .returned r ∧ Q r g1 ∧ sz ≤ t.heap.size ∧ va_P E.1 bz_Cl (va_pl L g1) t.heap ∧ ∀ q : Nat, q < st.heap.size → q ∉ L → t.heap[q]? = st.heap[q]?
def bz_KH (l : Launch) (E : bz_E) (M : bz_M) (t : bz_HT) (d : Nat) (av : List Value) (L : List Nat) (g : Nat → va_E) (Q : Option Value → (Nat → va_E) → Prop) : Prop :=
  ∀ sz : Nat, Met l M.1 (bz_wsH M t) (bz_R d 1 6) (bz_Pc E av L g sz) (bz_QcH E L sz Q) 1 6 (fun q => q ∈ L ∨ sz ≤ q)
def bz_FmH (E : bz_E) (L : List Nat) (sz : Nat) (Q : Option Value → (Nat → va_E) → Prop) : bz_F := fun below args s => MQ below (bz_QcH E L sz Q) args s 1 6 (fun q => q ∈ L ∨ sz ≤ q)
theorem bz_ofWH {l : Launch} {y : MethodName} {ws ws' : List Cond} {rm : Room} {Pc : Array Value → State → Prop} {Qc : Array Value → State → Outcome → State → Prop} {mc ms : Nat} {free : Addr → Prop} {cc : ByteArray} {maxL : Nat} {ret : Option FieldType} {hh : bz_HT}
    (hy : plainName y.cls = true) (hw : ws = Cond.codeWith y cc maxL ret hh :: ws')
    (body : ∀ p e s m args below meth c s₁, BodyLoose p l y (headSpec ws rm) cc maxL ret e s m args below meth c s₁ → c.maxLocals = maxL → Pc args s →
      W p l e (headSpec ws rm).room s m args below meth c s.heap [] 0 0 (MQ below Qc args s mc ms free) (entryFrame m args maxL)) : Met l y ws rm Pc Qc mc ms free := by
  refine MetFree.of_bodyS (code := cc) (maxLocals := maxL) (ret := ret) hy ?_ ?_
  · intro args s m h hn
    obtain ⟨m9, meth, c, hn9, h1, h2, h3, h4, -, h5, h6, -⟩ := Cond.codeWith_spec (atoms_spec (ws := ws) h _ (by rw [hw]; exact List.mem_cons_self))
    cases hn.symm.trans hn9
    exact ⟨meth, c, h1, h2, h3, h4, h5, h6⟩
  · intro p e s m args below meth c s₁ B hml hP _
    have hh0 : s₁.heap = s.heap := by rw [B.state]; rfl
    obtain ⟨t, a1, o, b1, b2, b3⟩ := body p e s m args below meth c s₁ B hml hP s₁ hh0 (Stand.of_body B)
    exact ⟨t, o, a1, b1, b2, ⟨b3.1, b3.2⟩⟩
theorem bz_KH.of {l : Launch} {E : bz_E} {M : bz_M} {t : bz_HT} {d : Nat} {av : List Value} {L : List Nat} {g : Nat → va_E} {Q : Option Value → (Nat → va_E) → Prop} (hp : plainName M.1.cls = true) (hn : (lg_sl av).length ≤ M.2.2.1) (ht : bz_hh M = some t)
    (h : ∀ sz : Nat, bz_G l E M (bz_R d 1 6) L sz (bz_FmH E L sz Q) sz 0 0 L g 0 (lv_args 0 av) []) : bz_KH l E M t d av L g Q := by
  intro sz
  refine bz_ofWH (cc := M.2.1) (maxL := M.2.2.1) (ret := M.2.2.2) (ws' := bz_tbl) (hh := t) hp rfl ?_
  intro p e s m args below meth c s1 B hml hv
  obtain ⟨rfl, hsz, hP, hK, hD, hN, hZ⟩ := hv
  have hts := atoms_spec (ws := bz_wsH M t) B.pre
  have hl := lv_entry av hn
  rw [lg_entry_eq]
  refine h sz p e s m _ below meth c s.heap [] _ ⟨B.exec, B.bytes, B.returns, hml, findClass_of_methodNamed B.named, fun w hw => hts w (List.mem_cons_of_mem _ hw), hK, B.notSynchronized, (name_of_methodNamed B.named B.method).1, hsz, hN, hZ, fun t1 h1 => ?_⟩ hsz hP (bz_plA hD (fun a ha => Or.inl ha)) va_S.rf ⟨hl.1, hl.2.1, fun i v hv => hl.2.2 (i, v) (bz_mem hv)⟩
  cases h1.symm.trans ht
  exact vx_table (x := M.1) B (hts _ List.mem_cons_self)
section GH
variable {l : Launch} {E : bz_E} {M : bz_M} {d : Nat} {R : Room} {z0 : Nat} {sz k n : Nat} {L : List Nat} {g : Nat → va_E} {pc q : Nat} {lv : List (Nat × Value)} {st : List Value} {Q : Option Value → (Nat → va_E) → Prop}
theorem gh_iret {v : Int32} (hd : decode M.2.1 pc = .ok (.ireturn, 1)) (hr : M.2.2.2 = some .int) (hs : z0 ≤ sz) (hk : k ≤ 1) (hn : n ≤ 6) (hQ : Q (some (.int v)) g) : bz_G l E M R L z0 (bz_FmH E L z0 Q) sz k n L g pc lv [.int v] := by
  refine g_widen hk hn ?_
  intro p e s m args below meth c H locs ls C hz hP hD hS hl
  exact W.iret C.1 C.2.1 (C.2.2.1.trans hr) (fun t ht hW => ⟨_, g, rfl, hQ, by rw [ht, hz]; exact hs, by rw [ht]; exact hP, fun q hq hn => by rw [ht]; exact hS.2.1 q hq (fun h => h.elim hn (fun h => by omega))⟩) (bz_fr hS C.2.2.2.2.2.2.2.2.2.1) hd C.2.2.2.2.2.2.2.1
/-- what the class throws is caught here -/
theorem gh_catch {Fn : bz_F} {M2 : bz_M} {d2 idx ci N b h9 ct a9 b9 : Nat} {fs As rest : List Value} {X : String} {pre suf : bz_HT} (hd : decode M.2.1 pc = .ok (.invokevirtual idx, 3)) (hT : bz_hh M = some (pre ++ (a9, b9, h9, ct) :: suf)) (hpre : ∀ z ∈ pre, z.2.2.2 ≠ 0 ∧ ∃ nm : String, Cond.classLink M.1.cls z.2.2.2 nm ∈ bz_tbl ∧ (X, nm) ∈ bz_ncs) (hcv9 : covers ⟨a9, b9, h9, ct⟩ pc = true) (h0 : ct ≠ 0) (hlk : Cond.classLink M.1.cls ct X ∈ bz_tbl) (hX : X ∈ bz_xs) (hk : bz_kv M.1.cls idx M2 ci N) (hK : bz_KX l E M2 d2 (.ref b :: As) L g X) (hN : As.length = N) (hdd : d2 < d) (hL : b ∈ L) (hg : g b = .inr (ci, fs)) (hst : st = As.reverse ++ .ref b :: rest) (hr : (rest.map fun v => v.category).sum ≤ 8)
    (kk : ∀ (z1 q9 : Nat), sz ≤ z1 → bz_G l E M (bz_R d 1 6) L z0 Fn z1 1 6 L g h9 lv [.ref q9]) : bz_G l E M (bz_R d 1 6) L z0 Fn sz 0 0 L g pc lv st := by
  subst hst
  intro p e s m args below meth c H locs ls C hz hP hD hS hl
  obtain ⟨⟨w1, w2, w3, w4⟩, w5, w6, w7, rC, hrC, hrn⟩ := hk
  obtain ⟨j, hj⟩ := bz_at hL hg
  have hrc := va_recv C.2.2.2.2.2.2.1 hP hrC hj
  rw [hrn] at hrc
  have hts := C.2.2.2.2.2.1
  have hY := C.2.2.2.2.2.2.2.2.2.2.2.1.2.2
  have hrun := vx_runV (l := l) (As := As) (rest := rest) (n := N) (index := idx) (own := M.1.cls) (C := M2.1.cls) (nL := M.2.2.1) (R := bz_R d 1 6) (locs := locs) (cells := 0) (slots := 0) (H := H) (e := e) (below := below) (meth := meth) (g := F0 m pc ls (As.reverse ++ .ref b :: rest)) ⟨C.1, C.2.1, C.2.2.2.1, C.2.2.2.2.1, hts⟩ (hK sz) ⟨callB_of N hts (bz_gi w1) rfl rfl rfl (hts _ w2) (hts _ w5) w3 (bz_rmx hdd w4), hts _ w6, hts _ w7⟩ ⟨bz_bl, hrc, fun U hU hW => ⟨rfl, by rw [hU]; exact hz, by rw [hU]; exact hP, va_K.moved hW.alike C.2.2.2.2.2.2.1, hD.weaken (fun _ _ _ _ => trivial), fun x hx => va_Nw.warmM hW (C.2.2.2.2.2.2.2.2.2.2.1 x hx), bz_Zt C hD hS hU hW⟩⟩ rfl hN hl.1 rfl (by show 2 * 0 + _ ≤ 8; omega) hd ⟨Nat.le_refl _, Nat.le_refl _⟩
  intro T hT0 XX
  rcases hrun T hT0 XX with ⟨_, _, _, _, _, _, _, _, _, _, hF, _⟩ | ⟨q9, st1, t, T', Ls, X', ce, e0, X2, hLs, e1, e2, ⟨rfl, hx1, hx2, hx3⟩, hce, hcv, hcl, stp⟩
  · exact hF.elim
  · have hS1 : va_S (bz_A L s) s.heap t.heap (locs ++ Ls) := by
      refine ⟨by have := hS.1; omega, fun x hx hA => ?_, fun z hz9 => (List.mem_append.mp hz9).elim (hS.2.2 z) (fun h => ?_)⟩
      · rw [hx3 x (by rw [e0]; exact Nat.lt_of_lt_of_le hx hS.1) (fun h => hA (Or.inl h)), e0]
        exact hS.2.1 x hx hA
      · rcases hLs z h with h | h
        · exact Or.inl h
        · exact Or.inr (by have := hS.1; omega)
    obtain ⟨t2, a1, b1⟩ := vx_catch (own := M.1.cls) (name := X') (pc := pc) (ls := ls) (rest := rest) (H := t.heap) C.2.2.2.2.1 (tableOf pre) ⟨a9, b9, h9, ct⟩ (tableOf suf) (by rw [C.2.2.2.2.2.2.2.2.2.2.2.2 _ hT]; unfold tableOf; rw [List.map_append, List.map_cons]) (fun z hz9 => by
      obtain ⟨y, hy, rfl⟩ := List.mem_map.mp hz9
      obtain ⟨y1, nm, y2, y3⟩ := hpre y hy
      exact Or.inr ⟨y1, nm, hts _ y2, hY.2.2.2.2.1 _ y3⟩) hcv9 h0 (hts _ hlk) (va_tabs rfl rfl (hY.2.2.2.2.2.2.1 _ hX)) hce hcv hcl (kk t.heap.size q9 hx1 p e s m args below meth c t.heap (locs ++ Ls) ls C rfl hx2 hD hS1 hl) T' e1 X2
    exact ⟨t2, stp.trans a1, b1⟩
end GH
section GL
variable {l : Launch} {E : bz_E} {M : bz_M} {R : Room} {L0 : List Nat} {z0 : Nat} {Fn : bz_F} {sz k n : Nat} {L : List Nat} {g : Nat → va_E} {pc q : Nat} {lv : List (Nat × Value)} {st : List Value}
theorem gl_callV {M2 : bz_M} {d2 idx ci N b : Nat} {fs As rest : List Value} {Q2 : Option Value → (Nat → va_E) → Prop} (hd : decode M.2.1 pc = .ok (.invokevirtual idx, 3)) (hq : pc + 3 = q) (hk : bz_kv M.1.cls idx M2 ci N) (hN : As.length = N) (hK : bz_K l E M2 d2 (.ref b :: As) L g Q2) (hdd : d2 < R.frames) (hdl : 64 * d2 + 64 ≤ R.locals) (hL : b ∈ L) (hg : g b = .inr (ci, fs)) (hst : st = As.reverse ++ .ref b :: rest) (hr : (rest.map fun v => v.category).sum ≤ 8)
    (hkc : k + 0 ≤ R.cells) (hns : n + 0 ≤ R.slots)
    (kk : ∀ (r : Option Value) (g1 : Nat → va_E), Q2 r g1 → bz_G l E M R L0 z0 Fn sz k n L g1 q lv (r.toList ++ rest)) : bz_G l E M R L0 z0 Fn sz k n L g pc lv st := by
  subst hq
  subst hst
  intro p e s m args below meth c H locs ls C hz hP hD hS hl
  obtain ⟨⟨w1, w2, w3, w4⟩, w5, w6, w7, rC, hrC, hrn⟩ := hk
  obtain ⟨j, hj⟩ := bz_at hL hg
  have hrc := va_recv C.2.2.2.2.2.2.1 hP hrC hj
  rw [hrn] at hrc
  have hts := C.2.2.2.2.2.1
  refine bz_after C hz hD hS hl (va_runV (As := As) (rest := rest) (n := N) (index := idx) (own := M.1.cls) (C := M2.1.cls) (nL := M.2.2.1) ⟨C.1, C.2.1, C.2.2.2.1, C.2.2.2.2.1, hts⟩ (hK sz) ⟨callB_of N hts (bz_gi w1) rfl rfl rfl (hts _ w2) (hts _ w5) w3 (bz_rmi hdd hdl w4), hts _ w6, hts _ w7⟩ ⟨bz_bl, hrc, fun U hU hW => ⟨rfl, by rw [hU]; exact hz, by rw [hU]; exact hP, va_K.moved hW.alike C.2.2.2.2.2.2.1, hD.weaken (fun _ _ _ _ => trivial), fun x hx => va_Nw.warmM hW (C.2.2.2.2.2.2.2.2.2.2.1 x hx), bz_Zt C hD hS hU hW⟩⟩ rfl hN hl.1 rfl ?_ hd ⟨hkc, hns⟩) kk
  show 2 * 0 + _ ≤ 8
  omega
def bz_kh (own : String) (idx : Nat) (M2 : bz_M) (t : bz_HT) (N : Nat) : Prop := Cond.codeWith M2.1 M2.2.1 M2.2.2.1 M2.2.2.2 t ∈ bz_tbl ∧ Cond.initialized M2.1.cls ∈ bz_tbl ∧ (M2.1.cls ≠ "java/lang/invoke/MethodHandle" ∧ M2.1.cls ≠ "java/lang/invoke/VarHandle" ∧ (parseMethodDescriptor M2.1.desc).map (fun d => d.parameters.length) = some N) ∧ M2.2.2.1 ≤ 40 ∧ Cond.methodLink own idx M2.1 ∈ bz_tbl ∧ Cond.static M2.1 ∈ bz_tbl
theorem gl_callH {M2 : bz_M} {t : bz_HT} {d2 idx N : Nat} {As rest : List Value} {Q2 : Option Value → (Nat → va_E) → Prop} (hd : decode M.2.1 pc = .ok (.invokestatic idx, 3)) (hq : pc + 3 = q) (hk : bz_kh M.1.cls idx M2 t N) (hN : As.length = N) (hK : bz_KH l E M2 t d2 As L g Q2) (hdd : d2 < R.frames) (hdl : 64 * d2 + 64 ≤ R.locals) (hst : st = As.reverse ++ rest) (hr : (rest.map fun v => v.category).sum ≤ 8)
    (hkc : k + 1 ≤ R.cells) (hns : n + 6 ≤ R.slots)
    (kk : ∀ (r : Option Value) (g1 : Nat → va_E) (z1 : Nat), sz ≤ z1 → Q2 r g1 → bz_G l E M R L0 z0 Fn z1 (k + 1) (n + 6) L g1 q lv (r.toList ++ rest)) : bz_G l E M R L0 z0 Fn sz k n L g pc lv st := by
  subst hq
  subst hst
  intro p e s m args below meth c H locs ls C hz hP hD hS hl
  obtain ⟨w1, w2, w3, w4, w5, w6⟩ := hk
  have hts := C.2.2.2.2.2.1
  have hG : GoodIn bz_tbl (va_wsS M.1.cls idx M2.1 (bz_wsH M2 t)) := fun w hw => by
    have hm : w ∈ bz_tbl := by
      unfold va_wsS at hw
      rcases List.mem_append.mp hw with h | h
      · rcases List.mem_cons.mp h with e | h
        · rw [e]; exact w5
        · rcases List.mem_cons.mp h with e | h
          · rw [e]; exact w6
          · rw [List.mem_singleton.mp h]; exact w2
      · rcases List.mem_cons.mp h with e | h
        · rw [e]; exact w1
        · exact h
    exact ⟨hm, good_of_word (List.mem_filter.mp hm).2⟩
  refine bz_call (A0 := bz_A L0 s) (vx_runSW (hh := t) (As := As) (rest := rest) (n := N) (index := idx) (own := M.1.cls) (nL := M.2.2.1) ⟨C.1, C.2.1, C.2.2.2.1, C.2.2.2.2.1, hts⟩ (hK sz) (vx_cwSW N hts hG rfl rfl rfl w3 (bz_rmi hdd hdl w4)) ⟨bz_bl, fun U hU hW => ⟨rfl, by rw [hU]; exact hz, by rw [hU]; exact hP, va_K.moved hW.alike C.2.2.2.2.2.2.1, hD.weaken (fun _ _ _ _ => trivial), fun x hx => va_Nw.warmM hW (C.2.2.2.2.2.2.2.2.2.2.1 x hx), bz_Zt C hD hS hU hW⟩⟩ rfl hN hl.1 rfl (by show 2 * 0 + _ ≤ 8; omega) hd ⟨hkc, hns⟩) hS.2.2 (fun x hx => ?_) (fun v st1 t9 H1 locs1 h1 h2 hvm hq hl1 => ?_)
  · rcases hx with hx | hx
    · exact bz_plM hD hx
    · exact Or.inr (by have := hS.1; omega)
  · obtain ⟨r, g1, hoc, hQ, hz1, hP1, hk1⟩ := hq
    cases hoc
    rw [h2] at hz1 hP1 hk1
    rw [h1] at hk1
    refine kk _ g1 H1.size hz1 hQ p e s m args below meth c H1 locs1 ls C rfl hP1 (bz_plD hD) ⟨?_, fun x hx hA => ?_, hl1⟩ hl
    · have := hS.1; omega
    · rw [hk1 x (Nat.lt_of_lt_of_le hx hS.1) (fun h => hA (bz_plM hD h))]
      exact hS.2.1 x hx hA
end GL

abbrev mL_parse : bz_M := (yL_parse, cL_parse, 4, some .int)
abbrev tL_parse : bz_HT := [(0, 9, 12, 13)]
theorem kh_L_109 : bz_kh RL 109 mL_parse tL_parse 3 := ⟨bz_mw 647 (by decide +kernel), bz_mw 82 (by decide +kernel), by decide +kernel, by decide, bz_mw 645 (by decide +kernel), bz_mw 646 (by decide +kernel)⟩
abbrev mL_mayPass : bz_M := (yL_mayPass, cL_mayPass, 6, some .int)
abbrev tL_mayPass : bz_HT := [(0, 19, 22, 19)]
theorem kh_L_127 : bz_kh RL 127 mL_mayPass tL_mayPass 5 := ⟨bz_mw 881 (by decide +kernel), bz_mw 82 (by decide +kernel), by decide +kernel, by decide, bz_mw 879 (by decide +kernel), bz_mw 880 (by decide +kernel)⟩
abbrev mL_holds : bz_M := (yL_holds, cL_holds, 5, some .int)
abbrev tL_holds : bz_HT := [(0, 17, 20, 19)]
theorem kh_L_136 : bz_kh RL 136 mL_holds tL_holds 4 := ⟨bz_mw 911 (by decide +kernel), bz_mw 82 (by decide +kernel), by decide +kernel, by decide, bz_mw 909 (by decide +kernel), bz_mw 910 (by decide +kernel)⟩
abbrev mL_waiting : bz_M := (yL_waiting, cL_waiting, 4, some .int)
abbrev tL_waiting : bz_HT := [(0, 9, 12, 19)]
theorem kh_L_140 : bz_kh RL 140 mL_waiting tL_waiting 3 := ⟨bz_mw 918 (by decide +kernel), bz_mw 82 (by decide +kernel), by decide +kernel, by decide, bz_mw 916 (by decide +kernel), bz_mw 917 (by decide +kernel)⟩
abbrev mL_kindAt : bz_M := (yL_kindAt, cL_kindAt, 5, some .int)
abbrev tL_kindAt : bz_HT := [(0, 10, 13, 19)]
theorem kh_L_143 : bz_kh RL 143 mL_kindAt tL_kindAt 4 := ⟨bz_mw 929 (by decide +kernel), bz_mw 82 (by decide +kernel), by decide +kernel, by decide, bz_mw 927 (by decide +kernel), bz_mw 928 (by decide +kernel)⟩
abbrev mL_tagAt : bz_M := (yL_tagAt, cL_tagAt, 5, some .int)
abbrev tL_tagAt : bz_HT := [(0, 10, 13, 19)]
theorem kh_L_146 : bz_kh RL 146 mL_tagAt tL_tagAt 4 := ⟨bz_mw 942 (by decide +kernel), bz_mw 82 (by decide +kernel), by decide +kernel, by decide, bz_mw 940 (by decide +kernel), bz_mw 941 (by decide +kernel)⟩
abbrev mL_blockers : bz_M := (yL_blockers, cL_blockers, 5, some .int)
abbrev tL_blockers : bz_HT := [(0, 10, 13, 19)]
theorem kh_L_149 : bz_kh RL 149 mL_blockers tL_blockers 4 := ⟨bz_mw 949 (by decide +kernel), bz_mw 82 (by decide +kernel), by decide +kernel, by decide, bz_mw 947 (by decide +kernel), bz_mw 948 (by decide +kernel)⟩
abbrev mL_next : bz_M := (yL_next, cL_next, 4, some .int)
abbrev tL_next : bz_HT := [(0, 9, 12, 19)]
theorem kh_L_152 : bz_kh RL 152 mL_next tL_next 3 := ⟨bz_mw 957 (by decide +kernel), bz_mw 82 (by decide +kernel), by decide +kernel, by decide, bz_mw 955 (by decide +kernel), bz_mw 956 (by decide +kernel)⟩
abbrev mL_held : bz_M := (yL_held, cL_held, 5, some .int)
abbrev tL_held : bz_HT := [(0, 10, 13, 19)]
theorem kh_L_155 : bz_kh RL 155 mL_held tL_held 4 := ⟨bz_mw 965 (by decide +kernel), bz_mw 82 (by decide +kernel), by decide +kernel, by decide, bz_mw 963 (by decide +kernel), bz_mw 964 (by decide +kernel)⟩
abbrev mL_word : bz_M := (yL_word, cL_word, 5, some .int)
abbrev tL_word : bz_HT := [(0, 10, 13, 19)]
theorem kh_L_158 : bz_kh RL 158 mL_word tL_word 4 := ⟨bz_mw 973 (by decide +kernel), bz_mw 82 (by decide +kernel), by decide +kernel, by decide, bz_mw 971 (by decide +kernel), bz_mw 972 (by decide +kernel)⟩
abbrev mL_tagState : bz_M := (yL_tagState, cL_tagState, 5, some .int)
abbrev tL_tagState : bz_HT := [(0, 10, 13, 19)]
theorem kh_L_161 : bz_kh RL 161 mL_tagState tL_tagState 4 := ⟨bz_mw 985 (by decide +kernel), bz_mw 82 (by decide +kernel), by decide +kernel, by decide, bz_mw 983 (by decide +kernel), bz_mw 984 (by decide +kernel)⟩
abbrev mL_stored : bz_M := (yL_stored, cL_stored, 5, some .int)
abbrev tL_stored : bz_HT := [(0, 10, 13, 19)]
theorem kh_L_164 : bz_kh RL 164 mL_stored tL_stored 4 := ⟨bz_mw 1002 (by decide +kernel), bz_mw 82 (by decide +kernel), by decide +kernel, by decide, bz_mw 1000 (by decide +kernel), bz_mw 1001 (by decide +kernel)⟩
abbrev mL_data : bz_M := (yL_data, cL_data, 6, some .int)
abbrev tL_data : bz_HT := [(0, 12, 15, 19), (0, 12, 19, 57)]
theorem kh_L_167 : bz_kh RL 167 mL_data tL_data 5 := ⟨bz_mw 1013 (by decide +kernel), bz_mw 82 (by decide +kernel), by decide +kernel, by decide, bz_mw 1011 (by decide +kernel), bz_mw 1012 (by decide +kernel)⟩
abbrev mL_forwarded : bz_M := (yL_forwarded, cL_forwarded, 4, some .int)
abbrev tL_forwarded : bz_HT := [(0, 9, 12, 19)]
theorem kh_L_171 : bz_kh RL 171 mL_forwarded tL_forwarded 3 := ⟨bz_mw 1046 (by decide +kernel), bz_mw 82 (by decide +kernel), by decide +kernel, by decide, bz_mw 1044 (by decide +kernel), bz_mw 1045 (by decide +kernel)⟩
abbrev mL_passings : bz_M := (yL_passings, cL_passings, 4, some .int)
abbrev tL_passings : bz_HT := [(0, 9, 12, 19)]
theorem kh_L_174 : bz_kh RL 174 mL_passings tL_passings 3 := ⟨bz_mw 1053 (by decide +kernel), bz_mw 82 (by decide +kernel), by decide +kernel, by decide, bz_mw 1051 (by decide +kernel), bz_mw 1052 (by decide +kernel)⟩
abbrev mL_utilisation : bz_M := (yL_utilisation, cL_utilisation, 4, some .int)
abbrev tL_utilisation : bz_HT := [(0, 8, 11, 19)]
theorem kh_L_177 : bz_kh RL 177 mL_utilisation tL_utilisation 3 := ⟨bz_mw 1060 (by decide +kernel), bz_mw 82 (by decide +kernel), by decide +kernel, by decide, bz_mw 1058 (by decide +kernel), bz_mw 1059 (by decide +kernel)⟩
abbrev mL_averageWait : bz_M := (yL_averageWait, cL_averageWait, 4, some .int)
abbrev tL_averageWait : bz_HT := [(0, 9, 12, 19)]
theorem kh_L_181 : bz_kh RL 181 mL_averageWait tL_averageWait 3 := ⟨bz_mw 1067 (by decide +kernel), bz_mw 82 (by decide +kernel), by decide +kernel, by decide, bz_mw 1065 (by decide +kernel), bz_mw 1066 (by decide +kernel)⟩
abbrev mL_completeTick : bz_M := (yL_completeTick, cL_completeTick, 5, some .int)
abbrev tL_completeTick : bz_HT := [(0, 10, 13, 19)]
theorem kh_L_196 : bz_kh RL 196 mL_completeTick tL_completeTick 4 := ⟨bz_mw 1074 (by decide +kernel), bz_mw 82 (by decide +kernel), by decide +kernel, by decide, bz_mw 1072 (by decide +kernel), bz_mw 1073 (by decide +kernel)⟩
abbrev mL_run : bz_M := (yL_run, cL_run, 4, some .int)
abbrev tL_run : bz_HT := [(0, 9, 12, 13), (0, 9, 15, 57)]
theorem kh_L_199 : bz_kh RL 199 mL_run tL_run 3 := ⟨bz_mw 1081 (by decide +kernel), bz_mw 82 (by decide +kernel), by decide +kernel, by decide, bz_mw 1079 (by decide +kernel), bz_mw 1080 (by decide +kernel)⟩
abbrev mL_post : bz_M := (yL_post, cL_post, 8, some .int)
abbrev tL_post : bz_HT := [(0, 16, 19, 19), (0, 16, 23, 13), (0, 16, 27, 57)]
theorem kh_L_202 : bz_kh RL 202 mL_post tL_post 7 := ⟨bz_mw 1099 (by decide +kernel), bz_mw 82 (by decide +kernel), by decide +kernel, by decide, bz_mw 1097 (by decide +kernel), bz_mw 1098 (by decide +kernel)⟩
abbrev mL_read : bz_M := (yL_read, cL_read, 7, some .int)
abbrev tL_read : bz_HT := [(0, 14, 17, 19), (0, 14, 21, 13), (0, 14, 25, 57)]
theorem kh_L_206 : bz_kh RL 206 mL_read tL_read 6 := ⟨bz_mw 1122 (by decide +kernel), bz_mw 82 (by decide +kernel), by decide +kernel, by decide, bz_mw 1120 (by decide +kernel), bz_mw 1121 (by decide +kernel)⟩
abbrev mL_configure : bz_M := (yL_configure, cL_configure, 7, some .int)
abbrev tL_configure : bz_HT := [(0, 14, 17, 19), (0, 14, 21, 13), (0, 14, 25, 57)]
theorem kh_L_210 : bz_kh RL 210 mL_configure tL_configure 6 := ⟨bz_mw 1147 (by decide +kernel), bz_mw 82 (by decide +kernel), by decide +kernel, by decide, bz_mw 1145 (by decide +kernel), bz_mw 1146 (by decide +kernel)⟩
abbrev mL_release : bz_M := (yL_release, cL_release, 5, some .int)
abbrev tL_release : bz_HT := [(0, 10, 13, 19), (0, 10, 17, 57)]
theorem kh_L_213 : bz_kh RL 213 mL_release tL_release 4 := ⟨bz_mw 1154 (by decide +kernel), bz_mw 82 (by decide +kernel), by decide +kernel, by decide, bz_mw 1152 (by decide +kernel), bz_mw 1153 (by decide +kernel)⟩
abbrev mL_saveSnapshot : bz_M := (yL_saveSnapshot, cL_saveSnapshot, 4, some .int)
abbrev tL_saveSnapshot : bz_HT := [(0, 16, 19, 19)]
theorem kh_L_220 : bz_kh RL 220 mL_saveSnapshot tL_saveSnapshot 3 := ⟨bz_mw 1166 (by decide +kernel), bz_mw 82 (by decide +kernel), by decide +kernel, by decide, bz_mw 1164 (by decide +kernel), bz_mw 1165 (by decide +kernel)⟩
abbrev mL_restoreSnapshot : bz_M := (yL_restoreSnapshot, cL_restoreSnapshot, 4, some .int)
abbrev tL_restoreSnapshot : bz_HT := [(0, 9, 12, 19), (0, 9, 15, 57)]
theorem kh_L_223 : bz_kh RL 223 mL_restoreSnapshot tL_restoreSnapshot 3 := ⟨bz_mw 1181 (by decide +kernel), bz_mw 82 (by decide +kernel), by decide +kernel, by decide, bz_mw 1179 (by decide +kernel), bz_mw 1180 (by decide +kernel)⟩
theorem cl_IAE : Cond.classLink RL 13 x_IAE ∈ bz_tbl := bz_mw 648 (by decide +kernel)
theorem xs_IAE : x_IAE ∈ bz_xs := by decide
theorem cl_IOE : Cond.classLink RL 19 x_IOE ∈ bz_tbl := bz_mw 882 (by decide +kernel)
theorem xs_IOE : x_IOE ∈ bz_xs := by decide
theorem cl_ISE : Cond.classLink RL 57 x_ISE ∈ bz_tbl := bz_mw 1014 (by decide +kernel)
theorem xs_ISE : x_ISE ∈ bz_xs := by decide
