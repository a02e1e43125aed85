/-! THE LAW: its end, its script; longs; what stands behind the skeleton's PART A -/
def R_law : String := "BusBridgeLaw"
def lw_P (b : Addr) (xs : List Int32) (args : Array Value) (s : State) : Prop := args = #[.ref b] ∧ s.IntsAt b xs ∧ xs.length ≤ 3072 ∧ (Jvm.Cond.and given_1 narrow_1).before args s = true
/-- what a walk over the start with the record d0 says of its end, said of the start itself -/
theorem lw_closed {s t : State} {o : Outcome} {d0 : Drawn} {L : List Loc} {k n : Nat} (hd0 : s.drawn.sameBut d0 lw_cs) (hv : ∃ v, o = .returned v) (hW : (s.setDrawn d0).WarmedH t.vm) (hs : (s.setDrawn d0).sameButNew ({ t with vm := s.vm } : State) L k n) : State.butDraws s t lw_cs (fun t1 => Framed s o t1 L k n) := by
  have h2 : t.drawn = d0 := congrArg State.drawn hs.1
  refine ⟨⟨hv, hW, State.sameButNew.setDrawn hs s.drawn⟩, ?_, by decide⟩
  rw [h2]
  exact hd0
def lw_Q (_ : Array Value) (s : State) (o : Outcome) (t : State) : Prop := o = .returned (some (.int 1)) ∧ State.butDraws s t lw_cs (fun t1 => Framed s o t1 [] 601024 7293034)
def lw_Z (below : List Frame) (a : Array Value) (s : State) : State → Prop := fun t => ∃ o, t.status = .running ∧ Ended t below o ∧ lw_Q a s o t
/-- the law's own end, with 1 on the stack, nothing written that was there before, its room as the claim has it; d0: the record of draws at this point (at the entry s.drawn: begin with 'refine W.base ?_' and 'have hd0 := Drawn.sameBut.refl s.drawn lw_cs') -/
theorem lw_ret {p : Program} {l : Launch} {e : Env} {s : State} {m : MethodId} {below : List Frame} {meth : Method} {c : Code} {b : Nat} {d0 : Drawn} (hd0 : s.drawn.sameBut d0 lw_cs) (hx : p.tables.exec = Jvm.exec) (hb : c.code = code) (hr : meth.sig.returnType = ret) (hlocks : meth.locks = false) {pc : Nat} {H : Heap} {ls : Array Slot} (hdg : decode code pc = .ok (.ireturn, 1)) : W p l e room_1 (s.setDrawn d0) m #[Value.ref b] below meth c H [] 601024 7293034 (lw_Z below #[Value.ref b] s) (F0 m pc ls [.int 1]) := by
  intro T hT X
  obtain ⟨fs, hret, hrun, hended, hW, hframe⟩ := X.leave (v := some (.int 1)) (hlocks := hlocks) (fun h => by rw [hr] at h; cases h)
  have hmeth' : T.vm.method? m = some meth := X.method'
  refine ⟨T.setFrames fs, ?_, .returned (some (.int 1)), hrun, hended, rfl, lw_closed hd0 ⟨_, rfl⟩ hW hframe⟩
  jvm_step X.here [X.here.top, hx, hb, hdg, hmeth', hr, ret, narrow_b1]
  (try refine ⟨rfl, ?_⟩); (try refine ⟨rfl, ?_⟩)
  first | (intro acts; rw [hret _ acts rfl rfl rfl]) | rw [hret _ _ rfl rfl rfl]
  exact Steps.refl _
/-- what holds at the law's entry: the machine, the code, the tables' words (any of lw_tbl by 'hts w (by decide +kernel)'), the script of L ints xs at the cell b, what the Statement gives of the start (any of its parts by flat_of_before) -/
def lw_At (p : Program) (s : State) (m : MethodId) (meth : Method) (c : Code) (b L : Nat) (xs : Nat → Int32) : Prop :=
  p.tables.exec = Jvm.exec ∧ c.code = code ∧ meth.sig.returnType = ret ∧ c.maxLocals = 9 ∧ s.vm.findClass R_law = some m.cls ∧ (∀ w ∈ lw_tbl, w.before #[Value.ref b] s = true) ∧ va_X b L xs s s.heap ∧ b < s.heap.size ∧ meth.locks = false ∧ (Jvm.Cond.and given_1 narrow_1).before #[Value.ref b] s = true ∧ meth.name = "law"
abbrev mL_law : bz_M := (yL_law, cL_law, 9, some .boolean)
section GW
variable {l : Launch} {E : bz_E} {M : bz_M} {R : Room} {L0 : List Nat} {z0 : Nat} {Fn : bz_F} {sz k n : Nat} {L : List Nat} {g : Nat → va_E} {pc q : Nat} {lv : List (Nat × Value)} {st : List Value}
theorem g_lcmp {x y : Int64} (hd : decode M.2.1 pc = .ok (.lcmp, 1)) (hq : pc + 1 = q) (kk : bz_G l E M R L0 z0 Fn sz k n L g q lv (.int (lg_cmp x y) :: st)) : bz_G l E M R L0 z0 Fn sz k n L g pc lv (.long y :: .long x :: st) := by
  subst hq
  intro p e s m args below meth c H locs ls C hz hP hD hS hl
  exact W.lcmp C.1 C.2.1 hd (kk p e s m args below meth c H locs ls C hz hP hD hS hl)
theorem g_dstore {i : Nat} {x : UInt64} (hd : decode M.2.1 pc = .ok (.dstore i, 2)) (hq : pc + 2 = q) (hn : i + 1 < M.2.2.1) (hc : lv.all (fun z => z.2.category == 1 && z.1 != i + 1) = true) (kk : bz_G l E M R L0 z0 Fn sz k n L g q ((i, .double x) :: lv) st) : bz_G l E M R L0 z0 Fn sz k n L g pc lv (.double x :: st) := by
  subst hq
  intro p e s m args below meth c H locs ls C hz hP hD hS hl
  refine lv_dstore C.1 C.2.1 hd hl.lv hn rfl (fun ls1 h1 => kk p e s m args below meth c H locs ls1 C hz hP hD hS ⟨h1.1, h1.2.1, fun j w hw => ?_⟩)
  by_cases hj : j = i
  · subst hj
    rw [List.lookup_cons, beq_self_eq_true] at hw
    cases hw
    exact h1.2.2 (j, .double x) List.mem_cons_self
  · have hb : (j == i) = false := by simp [hj]
    simp only [List.lookup_cons, hb] at hw
    have ha := List.all_eq_true.mp hc _ (bz_mem hw)
    have ha1 : w.category = 1 ∧ j ≠ i + 1 := by simpa using ha
    exact h1.2.2 (j, w) (List.mem_cons_of_mem _ (List.mem_filter.mpr ⟨bz_look hw, by simp [hj, ha1.1, ha1.2]⟩))
end GW
section GB1
variable {l : Launch} {E : bz_E} {M : bz_M} {R : Room} {L0 : List Nat} {z0 : Nat} {Fn : bz_F} {sz k n : Nat} {L : List Nat} {g0 g : Nat → va_E} {pc q : Nat} {lv : List (Nat × Value)} {st : List Value} {bs : bz_L} {j i o a x : Nat} {es : List va_E}
theorem gb_lastN {N : Nat} {f : Nat → Int64} {y : Int64} (hd : decode M.2.1 pc = .ok (.lastore, 1)) (hq : pc + 1 = q) (hB : bz_B L g0 g bs) (hb : bs[j]? = some (o, es)) (he : es[i]? = some (.inl (E.1.1 24, N, .inr (.inl f)))) (ha : a = o + i) (hm : x < N) (hN : N < 2 ^ 31) (kk : ∀ g1 : Nat → va_E, bz_B L g0 g1 (bs.set j (o, es.set i (.inl (E.1.1 24, N, .inr (.inl (vp_updL f x y)))))) → bz_G l E M R L0 z0 Fn sz k n L g1 q lv st) : bz_G l E M R L0 z0 Fn sz k n L g pc lv (.long y :: .int (nI x) :: .ref a :: st) :=
  gb_last hd hq hB hb he ha (bz_vn hm hN) (by rw [nI_clamp (by omega)]; exact kk)
theorem gb_dastN {N : Nat} {f : Nat → UInt64} {y : UInt64} (hd : decode M.2.1 pc = .ok (.dastore, 1)) (hq : pc + 1 = q) (hB : bz_B L g0 g bs) (hb : bs[j]? = some (o, es)) (he : es[i]? = some (.inl (E.1.1 25, N, .inr (.inr (.inr (.inl f)))))) (ha : a = o + i) (hm : x < N) (hN : N < 2 ^ 31) (kk : ∀ g1 : Nat → va_E, bz_B L g0 g1 (bs.set j (o, es.set i (.inl (E.1.1 25, N, .inr (.inr (.inr (.inl (va_up f x y)))))))) → bz_G l E M R L0 z0 Fn sz k n L g1 q lv st) : bz_G l E M R L0 z0 Fn sz k n L g pc lv (.double y :: .int (nI x) :: .ref a :: st) :=
  gb_dast hd hq hB hb he ha (bz_vn hm hN) (by rw [nI_clamp (by omega)]; exact kk)
theorem gb_laldN {N : Nat} {f : Nat → Int64} (hd : decode M.2.1 pc = .ok (.laload, 1)) (hq : pc + 1 = q) (hB : bz_B L g0 g bs) (hb : bs[j]? = some (o, es)) (he : es[i]? = some (.inl (E.1.1 24, N, .inr (.inl f)))) (ha : a = o + i) (hm : x < N) (hN : N < 2 ^ 31) (kk : bz_G l E M R L0 z0 Fn sz k n L g q lv (.long (f x) :: st)) : bz_G l E M R L0 z0 Fn sz k n L g pc lv (.int (nI x) :: .ref a :: st) :=
  gb_lald hd hq hB hb he ha (bz_vn hm hN) (by rw [nI_clamp (by omega)]; exact kk)
theorem gb_daldN {N : Nat} {f : Nat → UInt64} (hd : decode M.2.1 pc = .ok (.daload, 1)) (hq : pc + 1 = q) (hB : bz_B L g0 g bs) (hb : bs[j]? = some (o, es)) (he : es[i]? = some (.inl (E.1.1 25, N, .inr (.inr (.inr (.inl f)))))) (ha : a = o + i) (hm : x < N) (hN : N < 2 ^ 31) (kk : bz_G l E M R L0 z0 Fn sz k n L g q lv (.double (f x) :: st)) : bz_G l E M R L0 z0 Fn sz k n L g pc lv (.int (nI x) :: .ref a :: st) :=
  gb_dald hd hq hB hb he ha (bz_vn hm hN) (by rw [nI_clamp (by omega)]; exact kk)
end GB1
/-- the law's end, for the start s0 and its own script -/
def lw_F (s0 : State) (b : Nat) : bz_F := fun below args s t => s = s0 → args = #[Value.ref b] → lw_Z below #[Value.ref b] s0 t
theorem lw_triv {s0 s : State} {b : Nat} {args : Array Value} {p : Program} {l : Launch} {e : Env} {R : Room} {m : MethodId} {below : List Frame} {meth : Method} {c : Code} {H : Heap} {locs : List Loc} {k n : Nat} {fr : JFrame} (h : ¬ (s = s0 ∧ args = #[Value.ref b])) : W p l e R s m args below meth c H locs k n (lw_F s0 b below args s) fr := by
  intro T hT X
  exact ⟨_, Steps.refl _, fun h1 h2 => absurd ⟨h1, h2⟩ h⟩
section GZ
variable {l : Launch} {E : bz_E} {R : Room} {z0 : Nat} {s0 : State} {b N : Nat} {xs : Nat → Int32} {sz k n : Nat} {L : List Nat} {g : Nat → va_E} {pc q : Nat} {lv : List (Nat × Value)} {st : List Value}
theorem gz_ld {j : Nat} (hX : va_X b N xs s0 s0.heap) (hbl : b < s0.heap.size) (hN : N ≤ 3072) (hj : j < N) (hd : decode mL_law.2.1 pc = .ok (.iaload, 1)) (hq : pc + 1 = q) (kk : bz_G l E mL_law R [] z0 (lw_F s0 b) sz k n L g q lv (.int (xs j) :: st)) : bz_G l E mL_law R [] z0 (lw_F s0 b) sz k n L g pc lv (.int (nI j) :: .ref b :: st) := by
  subst hq
  intro p e s m args below meth c H locs ls C hz hP hD hS hl
  by_cases hs : s = s0 ∧ args = #[Value.ref b]
  · obtain ⟨rfl, rfl⟩ := hs
    refine va_sld (A := bz_A [] s) C.1 C.2.1 hX hbl (fun h => h.elim (fun h => by cases h) (fun h => by omega)) hS (bz_vn hj (by omega)) hd ?_
    rw [nI_clamp (by omega)]
    exact kk p e s m _ below meth c H locs ls C hz hP hD hS hl
  · exact lw_triv hs
theorem gz_len (hX : va_X b N xs s0 s0.heap) (hbl : b < s0.heap.size) (hd : decode mL_law.2.1 pc = .ok (.arraylength, 1)) (hq : pc + 1 = q) (kk : bz_G l E mL_law R [] z0 (lw_F s0 b) sz k n L g q lv (.int (nI N) :: st)) : bz_G l E mL_law R [] z0 (lw_F s0 b) sz k n L g pc lv (.ref b :: st) := by
  subst hq
  intro p e s m args below meth c H locs ls C hz hP hD hS hl
  by_cases hs : s = s0 ∧ args = #[Value.ref b]
  · obtain ⟨rfl, rfl⟩ := hs
    refine va_slen (A := bz_A [] s) C.1 C.2.1 hX hbl (fun h => h.elim (fun h => by cases h) (fun h => by omega)) hS hd ?_
    exact kk p e s m _ below meth c H locs ls C hz hP hD hS hl
  · exact lw_triv hs
theorem gz_ret (hk : k ≤ 601024) (hn : n ≤ 7293034) (hd : decode mL_law.2.1 pc = .ok (.ireturn, 1)) : bz_G l E mL_law room_1 [] z0 (lw_F s0 b) sz k n L g pc lv [.int 1] := by
  refine g_widen hk hn ?_
  intro p e s m args below meth c H locs ls C hz hP hD hS hl
  by_cases hs : s = s0 ∧ args = #[Value.ref b]
  · obtain ⟨rfl, rfl⟩ := hs
    have hr := lw_ret (l := l) (e := e) (below := below) (b := b) (m := m) (H := H) (ls := ls) (p := p) (meth := meth) (c := c) (Drawn.sameBut.refl s.drawn lw_cs) C.1 C.2.1 C.2.2.1 C.2.2.2.2.2.2.2.1 hd
    refine va_forget (fun z hz9 => (hS.2.2 z hz9).elim (fun h => by cases h) id) ?_
    intro T hT X
    obtain ⟨t, a1, b1⟩ := hr T hT X
    exact ⟨t, a1, fun _ _ => b1⟩
  · exact lw_triv hs
end GZ
