/-! CONTRACTS: bz_K, of methods that make nothing and throw nothing; returns; calls. -/
def bz_R (d mc ms : Nat) : Room := { frames := d, cells := mc, slots := ms, locals := 64 * d }
def bz_ws (M : bz_M) : List Cond := Cond.code M.1 M.2.1 M.2.2.1 M.2.2.2 :: bz_tbl
def bz_Qc (E : bz_E) (L : List Nat) (sz : Nat) (Q : Option Value → (Nat → va_E) → Prop) : Array Value → State → Outcome → State → Prop := fun _ st oc t => ∃ (r : Option Value) (g1 : Nat → va_E), oc = .returned r ∧ Q r g1 ∧ t.heap.size = sz ∧ va_P E.1 bz_Cl (va_pl L g1) t.heap ∧ ∀ q : Nat, q < st.heap.size → q ∉ L → t.heap[q]? = st.heap[q]?
def bz_Pc (E : bz_E) (av : List Value) (L : List Nat) (g : Nat → va_E) (sz : Nat) : Array Value → State → Prop := va_Pc av (fun U => U.heap.size = sz ∧ va_P E.1 bz_Cl (va_pl L g) U.heap ∧ va_K E.1 bz_Cl (bz_tys E) U ∧ va_D (fun _ => True) (va_pl L g) ∧ bz_N U ∧ bz_Z E (bz_A L U) U U.heap)
def bz_K (l : Launch) (E : bz_E) (M : bz_M) (d : Nat) (av : List Value) (L : List Nat) (g : Nat → va_E) (Q : Option Value → (Nat → va_E) → Prop) : Prop :=
  ∀ sz : Nat, Met l M.1 (bz_ws M) (bz_R d 0 0) (bz_Pc E av L g sz) (bz_Qc E L sz Q) 0 0 (fun q => q ∈ L ∨ sz ≤ q)
def bz_Fm (E : bz_E) (L : List Nat) (sz : Nat) (Q : Option Value → (Nat → va_E) → Prop) : bz_F := fun below args s => MQ below (bz_Qc E L sz Q) args s 0 0 (fun q => q ∈ L ∨ sz ≤ q)
theorem bz_plD {A : Nat → Prop} {L : List Nat} {g g1 : Nat → va_E} (h : va_D A (va_pl L g)) : va_D A (va_pl L g1) := by
  have key : ∀ (i : Nat) (x : Nat × va_E), (va_pl L g1)[i]? = some x → ∃ y, (va_pl L g)[i]? = some y ∧ y.1 = x.1 := by
    intro i x hx
    unfold va_pl at hx ⊢
    rw [List.getElem?_map] at hx ⊢
    cases hL : L[i]? with
    | none => rw [hL] at hx; cases hx
    | some a => rw [hL] at hx; cases hx; exact ⟨_, rfl, rfl⟩
  refine ⟨fun i j x y hi hj hxy => ?_, fun i x hx => ?_⟩
  · obtain ⟨x1, a1, b1⟩ := key i x hi
    obtain ⟨y1, a2, b2⟩ := key j y hj
    exact h.1 i j x1 y1 a1 a2 (b1.trans (hxy.trans b2.symm))
  · obtain ⟨x1, a1, b1⟩ := key i x hx
    rw [← b1]; exact h.2 i x1 a1
theorem bz_plA {A B : Nat → Prop} {L : List Nat} {g : Nat → va_E} (h : va_D A (va_pl L g)) (hB : ∀ a ∈ L, B a) : va_D B (va_pl L g) :=
  h.weaken (fun i x hx _ => by
    unfold va_pl at hx
    rw [List.getElem?_map] at hx
    cases hL : L[i]? with
    | none => rw [hL] at hx; cases hx
    | some a => rw [hL] at hx; cases hx; exact hB a (List.mem_of_getElem? hL))
theorem bz_plM {A : Nat → Prop} {L : List Nat} {g : Nat → va_E} (h : va_D A (va_pl L g)) {a : Nat} (ha : a ∈ L) : A a := by
  obtain ⟨i, hi⟩ := bz_at ha (rfl : g a = g a)
  exact h.2 i _ hi
theorem bz_tb0 {p : Program} {l : Launch} {M : bz_M} {rm : Room} {e : Env} {s s1 : State} {m : MethodId} {args : Array Value} {below : List Frame} {meth : Method} {c : Code} {t : List (Nat × Nat × Nat × Nat)} (hts : ∀ w ∈ bz_ws M, w.before args s = true) (ht : some [] = some t) (B : BodyLoose p l M.1 (headSpec (bz_ws M) rm) M.2.1 M.2.2.1 M.2.2.2 e s m args below meth c s1) : c.exceptionTable.toList = tableOf t := by
  cases ht
  obtain ⟨meth9, c9, h1, h2, -, -, -, -, h7, -⟩ := Cond.code_spec B.named (hts _ List.mem_cons_self)
  cases Option.some.inj (h1.symm.trans B.method)
  cases Option.some.inj (h2.symm.trans (Stand.of_body B).code)
  rw [Array.isEmpty_iff.mp h7]
  rfl
theorem bz_K.of {l : Launch} {E : bz_E} {M : bz_M} {d : Nat} {av : List Value} {L : List Nat} {g : Nat → va_E} {Q : Option Value → (Nat → va_E) → Prop} (hp : plainName M.1.cls = true) (hn : (lg_sl av).length ≤ M.2.2.1)
    (h : ∀ sz : Nat, bz_G l E M (bz_R d 0 0) L sz (bz_Fm E L sz Q) sz 0 0 L g 0 (lv_args 0 av) []) (ht : bz_hh M = some [] := by decide +kernel) : bz_K l E M d av L g Q := by
  intro sz
  refine Met.ofW (cc := M.2.1) (maxL := M.2.2.1) (ret := M.2.2.2) (ws' := bz_tbl) hp rfl ?_
  intro p e s m args below meth c s1 B hml hv
  obtain ⟨rfl, hsz, hP, hK, hD, hN, hZ⟩ := hv
  have hts := atoms_spec (ws := bz_ws M) B.pre
  have hl := lv_entry av hn
  rw [lg_entry_eq]
  refine h sz p e s m _ below meth c s.heap [] _ ⟨B.exec, B.bytes, B.returns, hml, findClass_of_methodNamed B.named, fun w hw => hts w (List.mem_cons_of_mem _ hw), hK, B.notSynchronized, (name_of_methodNamed B.named B.method).1, hsz, hN, hZ, fun t h => bz_tb0 hts (ht.symm.trans h) B⟩ hsz hP (bz_plA hD (fun a ha => Or.inl ha)) va_S.rf ⟨hl.1, hl.2.1, fun i v hv => hl.2.2 (i, v) (bz_mem hv)⟩
section BR
variable {l : Launch} {E : bz_E} {M : bz_M} {R : Room} {sz : Nat} {L : List Nat} {g : Nat → va_E} {pc : Nat} {lv : List (Nat × Value)} {Q : Option Value → (Nat → va_E) → Prop}
theorem bz_end {L0 : List Nat} {s t : State} {H : Heap} {locs : List Loc} {r : Option Value} (hQ : Q r g) (hz : H.size = sz) (hP : va_P E.1 bz_Cl (va_pl L0 g) H) (hS : va_S (bz_A L0 s) s.heap H locs) (ht : t.heap = H) {args : Array Value} : bz_Qc E L0 sz Q args s (.returned r) t :=
  ⟨r, g, rfl, hQ, by rw [ht, hz], by rw [ht]; exact hP, fun q hq hn => by rw [ht]; exact hS.2.1 q hq (fun h => h.elim hn (fun h => by omega))⟩
theorem bz_fr {s : State} {H : Heap} {locs : List Loc} {L0 : List Nat} (hS : va_S (bz_A L0 s) s.heap H locs) (hz : s.heap.size = sz) : ∀ q ∈ locs, q.base ∈ L0 ∨ sz ≤ q.base := fun q hq => by
  rcases hS.2.2 q hq with h | h
  · exact Or.inl h
  · exact Or.inr (by omega)

theorem g_iret {v : Int32} (hd : decode M.2.1 pc = .ok (.ireturn, 1)) (hr : M.2.2.2 = some .int) (hQ : Q (some (.int v)) g) : bz_G l E M R L sz (bz_Fm E L sz Q) sz 0 0 L g pc lv [.int v] := by
  intro p e s m args below meth c H locs ls C hz hP hD hS hl
  exact W.iret C.1 C.2.1 (C.2.2.1.trans hr) (fun t ht hW => bz_end hQ hz hP hS ht) (bz_fr hS C.2.2.2.2.2.2.2.2.2.1) hd C.2.2.2.2.2.2.2.1
theorem g_zret {v : Int32} {ty : FieldType} (hd : decode M.2.1 pc = .ok (.ireturn, 1)) (hr : M.2.2.2 = some ty) (hn : narrow ty (.int v) = .int v) (hQ : Q (some (.int v)) g) : bz_G l E M R L sz (bz_Fm E L sz Q) sz 0 0 L g pc lv [.int v] := by
  intro p e s m args below meth c H locs ls C hz hP hD hS hl
  exact W.zret C.1 C.2.1 (C.2.2.1.trans hr) hn (fun t ht hW => bz_end hQ hz hP hS ht) (bz_fr hS C.2.2.2.2.2.2.2.2.2.1) hd C.2.2.2.2.2.2.2.1
theorem g_vret (hd : decode M.2.1 pc = .ok (.return_, 1)) (hr : M.2.2.2 = none) (hQ : Q (none) g) : bz_G l E M R L sz (bz_Fm E L sz Q) sz 0 0 L g pc lv [] := by
  intro p e s m args below meth c H locs ls C hz hP hD hS hl
  exact W.vret C.1 C.2.1 (C.2.2.1.trans hr) (fun t ht hW => bz_end hQ hz hP hS ht) (bz_fr hS C.2.2.2.2.2.2.2.2.2.1) hd C.2.2.2.2.2.2.2.1
theorem g_fret {v : UInt32} (hd : decode M.2.1 pc = .ok (.freturn, 1)) (hr : M.2.2.2 = some .float) (hQ : Q (some (.float v)) g) : bz_G l E M R L sz (bz_Fm E L sz Q) sz 0 0 L g pc lv [.float v] := by
  intro p e s m args below meth c H locs ls C hz hP hD hS hl
  exact W.fret C.1 C.2.1 (C.2.2.1.trans hr) (fun t ht hW => bz_end hQ hz hP hS ht) (bz_fr hS C.2.2.2.2.2.2.2.2.2.1) hd C.2.2.2.2.2.2.2.1
theorem g_dret {v : UInt64} (hd : decode M.2.1 pc = .ok (.dreturn, 1)) (hr : M.2.2.2 = some .double) (hQ : Q (some (.double v)) g) : bz_G l E M R L sz (bz_Fm E L sz Q) sz 0 0 L g pc lv [.double v] := by
  intro p e s m args below meth c H locs ls C hz hP hD hS hl
  exact W.dret C.1 C.2.1 (C.2.2.1.trans hr) (fun t ht hW => bz_end hQ hz hP hS ht) (bz_fr hS C.2.2.2.2.2.2.2.2.2.1) hd C.2.2.2.2.2.2.2.1
theorem g_aret {v : Value} {rt : FieldType} (hd : decode M.2.1 pc = .ok (.areturn, 1)) (hr : M.2.2.2 = some rt) (hrt : (∃ n, rt = .object n) ∨ ∃ t, rt = .array t) (hv : v = .null ∨ ∃ a, v = .ref a) (hQ : Q (some v) g) : bz_G l E M R L sz (bz_Fm E L sz Q) sz 0 0 L g pc lv [v] := by
  intro p e s m args below meth c H locs ls C hz hP hD hS hl
  exact W.aret C.1 C.2.1 (C.2.2.1.trans hr) hrt hv (fun t ht hW => bz_end hQ hz hP hS ht) (bz_fr hS C.2.2.2.2.2.2.2.2.2.1) hd C.2.2.2.2.2.2.2.1
end BR
/-- a call's run, whatever it answers -/
theorem bz_call {p : Program} {l : Launch} {e : Env} {R : Room} {s : State} {m : MethodId} {args : Array Value} {below : List Frame} {meth : Method} {c : Code} {H : Heap} {locs : List Loc} {cells slots mc ms : Nat} {Q : State → Prop} {pc : Nat} {ls : Array Slot} {rest st0 : List Value} {Qa : State → Outcome → State → Prop} {free A0 : Nat → Prop} (hr : va_Run p l e R s m args below meth c H locs cells slots mc ms (F0 m pc ls st0) rest Qa free) (hl : ∀ z ∈ locs, A0 z.base) (hf : ∀ q, free q → A0 q)
    (kk : ∀ (v : Option Value) (st1 t : State) (H1 : Heap) (locs1 : List Loc), st1.heap = H → t.heap = H1 → s.vm.Alike t.vm → Qa st1 (.returned v) t → (∀ z ∈ locs1, A0 z.base) → W p l e R s m args below meth c H1 locs1 (cells + mc) (slots + ms) Q (F0 m (pc + 3) ls (v.toList ++ rest))) : W p l e R s m args below meth c H locs cells slots Q (F0 m pc ls st0) := by
  intro T hT X
  obtain ⟨v, st1, t, T', Lx, h0, X', hL, e1, e2, hq, st⟩ := hr T hT X
  obtain ⟨t2, a1, b1⟩ := kk v st1 t T'.heap (locs ++ Lx) h0 e1.symm (by rw [← e2]; exact X'.warmed.alike) hq (fun z hz => (List.mem_append.mp hz).elim (hl z) (fun h => hf _ (hL z h))) T' rfl X'
  exact ⟨t2, st t2 a1, b1⟩
theorem bz_in {w : Cond} (h : w ∈ lw_tbl) (hg : goodWord w = true) : w ∈ bz_tbl := List.mem_filter.mpr ⟨h, hg⟩
theorem bz_gi {M : bz_M} (h : Cond.code M.1 M.2.1 M.2.2.1 M.2.2.2 ∈ bz_tbl) : GoodIn bz_tbl (bz_ws M) := fun w hw => by
  have hm : w ∈ bz_tbl := (List.mem_cons.mp hw).elim (fun e => by rw [e]; exact h) id
  exact ⟨hm, good_of_word (List.mem_filter.mp hm).2⟩
/-- what a call of M2 needs of the tables: by link idx of own, on an object of class ci -/
def bz_kd (M2 : bz_M) (n : Nat) : Prop := Cond.code M2.1 M2.2.1 M2.2.2.1 M2.2.2.2 ∈ bz_tbl ∧ Cond.initialized M2.1.cls ∈ bz_tbl ∧ (M2.1.cls ≠ "java/lang/invoke/MethodHandle" ∧ M2.1.cls ≠ "java/lang/invoke/VarHandle" ∧ (parseMethodDescriptor M2.1.desc).map (fun d => d.parameters.length) = some n) ∧ M2.2.2.1 ≤ 40
def bz_kv (own : String) (idx : Nat) (M2 : bz_M) (ci n : Nat) : Prop := bz_kd M2 n ∧ Cond.methodLink own idx M2.1 ∈ bz_tbl ∧ Cond.instanceMethod M2.1 ∈ bz_tbl ∧ Cond.selects M2.1.cls M2.1 M2.1 ∈ bz_tbl ∧ ∃ r : vw_C, bz_Cl[ci]? = some r ∧ r.1 = M2.1.cls
def bz_ks (own : String) (idx : Nat) (M2 : bz_M) (n : Nat) : Prop := bz_kd M2 n ∧ Cond.methodLink own idx M2.1 ∈ bz_tbl ∧ Cond.static M2.1 ∈ bz_tbl
def bz_kn (own : String) (idx : Nat) (M2 : bz_M) (n : Nat) : Prop := bz_kd M2 n ∧ (own, idx, M2.1) ∈ bz_nst ∧ Cond.static M2.1 ∈ bz_tbl
theorem bz_rm {d d2 mc ms N : Nat} (h : d2 < d) (hN : N ≤ 40) : (bz_R d2 0 0).frames + 1 ≤ (bz_R d mc ms).frames ∧ 8 + (N + 11) + (bz_R d2 0 0).locals ≤ (bz_R d mc ms).locals := by
  constructor
  · exact h
  · show 8 + (N + 11) + 64 * d2 ≤ 64 * d
    omega
theorem bz_Zc {E : bz_E} {A : Nat → Prop} {U : State} {H : Heap} {gg : JFrame} {mk : MethodId} {a : Array Value} (h : bz_Z E A U H) : bz_Z E A (U.calling gg mk a) H :=
  ⟨fun i hi => vk_S.moved (u := U) (U := U.calling gg mk a) (Vm.Alike.refl U.vm) (h.1 i hi), fun q hq => vk_R.same (u := U) (U := U.calling gg mk a) rfl (h.2.1 q hq), bz_Y.moved (u := U) (U := U.calling gg mk a) (Vm.Alike.refl U.vm) h.2.2⟩
theorem bz_bl {E : bz_E} {av : List Value} {L : List Nat} {g : Nat → va_E} {sz : Nat} : FrameBlind (bz_Pc E av L g sz) := fun a U gg mk q => by
  obtain ⟨q0, q1, qP, qK, qD, qN, qZ⟩ := q
  exact ⟨q0, q1, qP, va_K.moved (u := U) (U := U.calling gg mk a) (Vm.Alike.refl U.vm) qK, qD, fun x hx => va_Nw.same rfl rfl (qN x hx), bz_Zc qZ⟩
theorem bz_Zt {E : bz_E} {M : bz_M} {L0 L : List Nat} {z0 : Nat} {g : Nat → va_E} {p : Program} {s U : State} {m : MethodId} {args : Array Value} {meth : Method} {c : Code} {H : Heap} {locs : List Loc} (C : bz_C E M L0 z0 p s m args meth c) (hD : va_D (bz_A L0 s) (va_pl L g)) (hS : va_S (bz_A L0 s) s.heap H locs) (hU : U.heap = H) (hW : s.WarmedH U.vm) : bz_Z E (bz_A L U) U U.heap := by
  obtain ⟨⟨h1, h2, h3⟩, -⟩ := C.2.2.2.2.2.2.2.2.2.2.2
  rw [hU]
  have hA : ∀ q, (q ∈ L ∨ U.heap.size ≤ q) → bz_A L0 s q := fun q hq => by
    rcases hq with h | h
    · exact bz_plM hD h
    · rw [hU] at h
      exact Or.inr (Nat.le_trans hS.1 h)
  exact ⟨fun i hi => vk_S.moved hW.alike (vk_S.narrow (vk_S.kept (h1 i hi) hS.2.1) hA), fun q hq => vk_R.warm hW (h2 q hq), bz_Y.moved hW.alike (bz_Y.narrow (bz_Y.kept h3 hS.2.1) hA)⟩
section BC
variable {l : Launch} {E : bz_E} {M : bz_M} {d mc ms : Nat} {L0 : List Nat} {z0 : Nat} {Fn : bz_F} {sz k n : Nat} {L : List Nat} {g : Nat → va_E} {pc q : Nat} {lv : List (Nat × Value)} {st : List Value}
theorem bz_after {p : Program} {e : Env} {s : State} {m : MethodId} {args : Array Value} {below : List Frame} {meth : Method} {c : Code} {H : Heap} {locs : List Loc} {ls : Array Slot} {R : Room} {rest st0 : List Value} {Q2 : Option Value → (Nat → va_E) → Prop} {a2 : Array Value} (C : bz_C E M L0 z0 p s m args meth c) (hz : H.size = sz) (hD : va_D (bz_A L0 s) (va_pl L g)) (hS : va_S (bz_A L0 s) s.heap H locs) (hl : bz_has ls M.2.2.1 lv)
    (hr : va_Run p l e R s m args below meth c H locs k n 0 0 (F0 m pc ls st0) rest (bz_Qc E L sz Q2 a2) (fun q => q ∈ L ∨ sz ≤ q))
    (kk : ∀ (r : Option Value) (g1 : Nat → va_E), Q2 r g1 → bz_G l E M R L0 z0 Fn sz k n L g1 (pc + 3) lv (r.toList ++ rest)) : W p l e R s m args below meth c H locs k n (Fn below args s) (F0 m pc ls st0) := by
  refine bz_call (A0 := bz_A L0 s) hr hS.2.2 (fun x hx => ?_) (fun v st1 t H1 locs1 h1 h2 hvm hq hl1 => ?_)
  · rcases hx with hx | hx
    · exact bz_plM hD hx
    · exact Or.inr (by have := hS.1; omega)
  · obtain ⟨r, g1, hoc, hQ, hz1, hP1, hk1⟩ := hq
    cases hoc
    rw [h2] at hz1 hP1 hk1
    rw [h1] at hk1
    refine kk v g1 hQ p e s m args below meth c H1 locs1 ls C hz1 hP1 (bz_plD hD) ⟨?_, fun x hx hA => ?_, hl1⟩ hl
    · have := hS.1; omega
    · rw [hk1 x (Nat.lt_of_lt_of_le hx hS.1) (fun h => hA (bz_plM hD h))]
      exact hS.2.1 x hx hA
theorem g_callV {M2 : bz_M} {d2 idx ci N b : Nat} {fs As rest : List Value} {Q2 : Option Value → (Nat → va_E) → Prop} (hd : decode M.2.1 pc = .ok (.invokevirtual idx, 3)) (hq : pc + 3 = q) (hk : bz_kv M.1.cls idx M2 ci N) (hN : As.length = N) (hK : bz_K l E M2 d2 (.ref b :: As) L g Q2) (hdd : d2 < d) (hL : b ∈ L) (hg : g b = .inr (ci, fs)) (hst : st = As.reverse ++ .ref b :: rest) (hr : (rest.map fun v => v.category).sum ≤ 8)
    (hkc : k + 0 ≤ (bz_R d mc ms).cells) (hns : n + 0 ≤ (bz_R d mc ms).slots)
    (kk : ∀ (r : Option Value) (g1 : Nat → va_E), Q2 r g1 → bz_G l E M (bz_R d mc ms) L0 z0 Fn sz k n L g1 q lv (r.toList ++ rest)) : bz_G l E M (bz_R d mc ms) L0 z0 Fn sz k n L g pc lv st := by
  subst hq
  subst hst
  intro p e s m args below meth c H locs ls C hz hP hD hS hl
  obtain ⟨⟨w1, w2, w3, w4⟩, w5, w6, w7, rC, hrC, hrn⟩ := hk
  obtain ⟨j, hj⟩ := bz_at hL hg
  have hrc := va_recv C.2.2.2.2.2.2.1 hP hrC hj
  rw [hrn] at hrc
  have hts := C.2.2.2.2.2.1
  refine bz_after C hz hD hS hl (va_runV (As := As) (rest := rest) (n := N) (index := idx) (own := M.1.cls) (C := M2.1.cls) (nL := M.2.2.1) ⟨C.1, C.2.1, C.2.2.2.1, C.2.2.2.2.1, hts⟩ (hK sz) ⟨callB_of N hts (bz_gi w1) rfl rfl rfl (hts _ w2) (hts _ w5) w3 (bz_rm hdd w4), hts _ w6, hts _ w7⟩ ⟨bz_bl, hrc, fun U hU hW => ⟨rfl, by rw [hU]; exact hz, by rw [hU]; exact hP, va_K.moved hW.alike C.2.2.2.2.2.2.1, hD.weaken (fun _ _ _ _ => trivial), fun x hx => va_Nw.warmM hW (C.2.2.2.2.2.2.2.2.2.2.1 x hx), bz_Zt C hD hS hU hW⟩⟩ rfl hN hl.1 rfl ?_ hd ⟨hkc, hns⟩) kk
  show 2 * 0 + _ ≤ 8
  omega
theorem g_callS {M2 : bz_M} {d2 idx N : Nat} {As rest : List Value} {Q2 : Option Value → (Nat → va_E) → Prop} (hd : decode M.2.1 pc = .ok (.invokestatic idx, 3)) (hq : pc + 3 = q) (hk : bz_ks M.1.cls idx M2 N) (hN : As.length = N) (hK : bz_K l E M2 d2 As L g Q2) (hdd : d2 < d) (hst : st = As.reverse ++ rest) (hr : (rest.map fun v => v.category).sum ≤ 8)
    (hkc : k + 0 ≤ (bz_R d mc ms).cells) (hns : n + 0 ≤ (bz_R d mc ms).slots)
    (kk : ∀ (r : Option Value) (g1 : Nat → va_E), Q2 r g1 → bz_G l E M (bz_R d mc ms) L0 z0 Fn sz k n L g1 q lv (r.toList ++ rest)) : bz_G l E M (bz_R d mc ms) L0 z0 Fn sz k n L g pc lv st := by
  subst hq
  subst hst
  intro p e s m args below meth c H locs ls C hz hP hD hS hl
  obtain ⟨⟨w1, w2, w3, w4⟩, w5, w6⟩ := hk
  have hts := C.2.2.2.2.2.1
  refine bz_after C hz hD hS hl (va_runS (As := As) (rest := rest) (n := N) (index := idx) (own := M.1.cls) (nL := M.2.2.1) ⟨C.1, C.2.1, C.2.2.2.1, C.2.2.2.2.1, hts⟩ (hK sz) ⟨callB_of N hts (bz_gi w1) rfl rfl rfl (hts _ w2) (hts _ w5) w3 (bz_rm hdd w4), hts _ w6⟩ ⟨bz_bl, fun U hU hW => ⟨rfl, by rw [hU]; exact hz, by rw [hU]; exact hP, va_K.moved hW.alike C.2.2.2.2.2.2.1, hD.weaken (fun _ _ _ _ => trivial), fun x hx => va_Nw.warmM hW (C.2.2.2.2.2.2.2.2.2.2.1 x hx), bz_Zt C hD hS hU hW⟩⟩ rfl hN hl.1 rfl ?_ hd ⟨hkc, hns⟩) kk
  show 2 * 0 + _ ≤ 8
  omega
theorem g_callN {M2 : bz_M} {d2 idx N : Nat} {As rest : List Value} {Q2 : Option Value → (Nat → va_E) → Prop} (hd : decode M.2.1 pc = .ok (.invokestatic idx, 3)) (hq : pc + 3 = q) (hk : bz_kn M.1.cls idx M2 N) (hN : As.length = N) (hK : bz_K l E M2 d2 As L g Q2) (hdd : d2 < d) (hst : st = As.reverse ++ rest) (hr : (rest.map fun v => v.category).sum ≤ 8)
    (hkc : k + 0 ≤ (bz_R d mc ms).cells) (hns : n + 0 ≤ (bz_R d mc ms).slots)
    (kk : ∀ (r : Option Value) (g1 : Nat → va_E), Q2 r g1 → bz_G l E M (bz_R d mc ms) L0 z0 Fn sz k n L g1 q lv (r.toList ++ rest)) : bz_G l E M (bz_R d mc ms) L0 z0 Fn sz k n L g pc lv st := by
  subst hq
  subst hst
  intro p e s m args below meth c H locs ls C hz hP hD hS hl
  obtain ⟨⟨w1, w2, w3, w4⟩, w5, w6⟩ := hk
  have hts := C.2.2.2.2.2.1
  refine bz_after C hz hD hS hl (va_runSN (As := As) (rest := rest) (n := N) (index := idx) (own := M.1.cls) (host := "BusBridge") (nL := M.2.2.1) ⟨C.1, C.2.1, C.2.2.2.1, C.2.2.2.2.1, hts⟩ (hK sz) ⟨va_cnB N hts (bz_gi w1) rfl rfl rfl (C.2.2.2.2.2.2.2.2.2.2.1 _ w5) (hts _ w2) w3 (bz_rm hdd w4), hts _ w6, trivial⟩ ⟨bz_bl, fun U hU hW => ⟨rfl, by rw [hU]; exact hz, by rw [hU]; exact hP, va_K.moved hW.alike C.2.2.2.2.2.2.1, hD.weaken (fun _ _ _ _ => trivial), fun x hx => va_Nw.warmM hW (C.2.2.2.2.2.2.2.2.2.2.1 x hx), bz_Zt C hD hS hU hW⟩⟩ rfl hN hl.1 rfl ?_ hd ⟨hkc, hns⟩) kk
  show 2 * 0 + _ ≤ 8
  omega
end BC

