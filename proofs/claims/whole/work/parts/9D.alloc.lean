/-! MAKING: new cells lie behind all others; bz_KI, of constructors -/
def bz_new (s n : Nat) : List Nat := (List.range n).map (fun i => s + i)
theorem bz_new_s (s n : Nat) : bz_new s (n + 1) = bz_new s n ++ [s + n] := by
  unfold bz_new
  rw [List.range_succ, List.map_append]
  rfl
theorem bz_new_a (s j : Nat) : ∀ m, bz_new s (j + m) = bz_new s j ++ bz_new (s + j) m
  | 0 => by show bz_new s j = bz_new s j ++ []; rw [List.append_nil]
  | m + 1 => by rw [show j + (m + 1) = (j + m) + 1 by omega, bz_new_s, bz_new_a s j m, bz_new_s, List.append_assoc, Nat.add_assoc]
theorem bz_new_m {s n i : Nat} (h : i < n) : s + i ∈ bz_new s n := List.mem_map.mpr ⟨i, List.mem_range.mpr h, rfl⟩
def bz_pool (L : List Nat) (a n : Nat) : List Nat := L ++ bz_new (a + 1) n
theorem bz_pool_0 (L : List Nat) (a : Nat) : bz_pool L a 0 = L := List.append_nil L
theorem bz_pool_s (L : List Nat) (a n : Nat) : bz_pool L a (n + 1) = bz_pool L a n ++ [a + 1 + n] := by
  unfold bz_pool
  rw [bz_new_s, List.append_assoc]
theorem bz_pool_a (L : List Nat) (a n m : Nat) : bz_pool L a (n + 1 + m) = bz_pool (bz_pool L a (n + 1)) (a + 1 + n) m := by
  unfold bz_pool
  rw [bz_new_a, ← List.append_assoc]
  rfl
section GA
variable {l : Launch} {E : bz_E} {M : bz_M} {R : Room} {L0 : List Nat} {z0 : Nat} {Fn : bz_F} {sz k n : Nat} {L : List Nat} {g : Nat → va_E} {pc q : Nat} {lv : List (Nat × Value)} {st : List Value}
theorem g_widen {k1 n1 : Nat} (h1 : k ≤ k1) (h2 : n ≤ n1) (kk : bz_G l E M R L0 z0 Fn sz k1 n1 L g pc lv st) : bz_G l E M R L0 z0 Fn sz k n L g pc lv st := by
  intro p e s m args below meth c H locs ls C hz hP hD hS hl
  exact W.widen h1 h2 (kk p e s m args below meth c H locs ls C hz hP hD hS hl)
theorem bz_grow {s : State} {A : Nat → Prop} {H H1 : Heap} {locs : List Loc} {x : va_E} (hA : ∀ q, s.heap.size ≤ q → A q) (hP : va_P E.1 bz_Cl (va_pl L g) H) (hD : va_D A (va_pl L g)) (hS : va_S A s.heap H locs) (z1 : H1.size = H.size + 1) (o1 : ∀ q, q < H.size → H1[q]? = H[q]?) (hx : va_at E.1 bz_Cl (H.size, x) H1) :
    va_P E.1 bz_Cl (va_pl (L ++ [H.size]) (va_up g H.size x)) H1 ∧ va_D A (va_pl (L ++ [H.size]) (va_up g H.size x)) ∧ va_S A s.heap H1 locs := by
  have hfresh : H.size ∉ L := va_pl_fresh (X := []) hP (Nat.le_refl _)
  rw [← va_pl_push hfresh]
  have hk : ∀ (k : Nat) (y : Nat × va_E), (va_pl L g)[k]? = some y → H1[y.1]? = H[y.1]? := fun k y hy => o1 y.1 ((hP k y hy).lt)
  refine ⟨(hP.kept hk).app (fun k y hy => ?_), hD.push hP rfl (hA _ hS.1), ⟨Nat.le_trans hS.1 (by omega), fun y h1 h2 => (o1 y (Nat.lt_of_lt_of_le h1 hS.1)).trans (hS.2.1 y h1 h2), hS.2.2⟩⟩
  have hz : k < 1 := (List.getElem?_eq_some_iff.mp hy).1
  rw [show k = 0 by omega] at hy
  cases hy
  exact hx
theorem g_newarr {atype : ArrayType} {ty : FieldType} {t0 N : Nat} {cA0 : ClassId} {x0 : (Nat → Int32) ⊕ (Nat → Int64) ⊕ (Nat → UInt32) ⊕ (Nat → UInt64) ⊕ (Nat → Option Nat)} (hd : decode M.2.1 pc = .ok (.newarray atype, 2)) (hq : pc + 2 = q) (hty : newarray.typeOf atype = ty) (hw : Cond.arrayClass ty ∈ bz_tbl) (ht : (bz_tys E)[t0]? = some (cA0, ty)) (hRA : ∀ (U : State) (cA : ClassId), va_RA U cA ty → U.vm.findClass ("[" ++ ty.toString) = some cA) (hx : ∀ cA : ClassId, vp_cell cA (N, x0) = arrV cA N (fun _ => defaultValue ty)) (hN : N < 100000) (hb : N * componentBytes ty ≤ 536870912) (hk : k + 1 ≤ R.cells) (hn : n + N ≤ R.slots)
    (kk : bz_G l E M R L0 z0 Fn (sz + 1) (k + 1) (n + N) (L ++ [sz]) (va_up g sz (.inl (cA0, N, x0))) q lv (.ref sz :: st)) : bz_G l E M R L0 z0 Fn sz k n L g pc lv (.int (nI N) :: st) := by
  subst hq
  subst hty
  intro p e s m args below meth c H locs ls C hz hP hD hS hl
  subst hz
  refine va_newaK C.1 C.2.1 (C.2.2.2.2.2.1 _ hw) rfl hd rfl (nI_pos (by omega)) (nI_clamp (by omega)) hb hk hn rfl (fun H1 cA e1 z1 o1 hAr hNm => ?_)
  have hcA : cA = cA0 := Option.some.inj (hNm.symm.trans (hRA _ _ (C.2.2.2.2.2.2.1.2 t0 _ ht).2))
  subst hcA
  obtain ⟨p1, p2, p3⟩ := bz_grow (x := .inl (cA, N, x0)) (fun q h => Or.inr h) hP hD hS z1 o1 (by show H1[H.size]? = some (vp_cell _ _); rw [hx]; exact e1)
  exact kk p e s m args below meth c H1 locs ls C z1 p1 p2 p3 hl
theorem g_newobj {idx ci N : Nat} {CN : String} {T : u_T} {ty : Nat → FieldType} {fs : List Value} (hd : decode M.2.1 pc = .ok (.new idx, 3)) (hq : pc + 3 = q) (hc : bz_Cl[ci]? = some (CN, T, N)) (hin : ∀ w ∈ u_ws CN T N, w ∈ bz_tbl) (hty : ∀ k, k < N → parseFieldDescriptor (T k).2.2.1 = some (ty k)) (hcl : Cond.classLink M.1.cls idx CN ∈ bz_tbl) (hinst : Cond.instantiable CN N ∈ bz_tbl) (hini : Cond.initialized CN ∈ bz_tbl) (hfs : ∀ j, j < N → defaultValue (ty j) = vp_V fs j) (hk : k + 1 ≤ R.cells) (hn : n + N ≤ R.slots)
    (kk : bz_G l E M R L0 z0 Fn (sz + 1) (k + 1) (n + N) (L ++ [sz]) (va_up g sz (.inr (ci, fs))) q lv (.ref sz :: st)) : bz_G l E M R L0 z0 Fn sz k n L g pc lv st := by
  subst hq
  intro p e s m args below meth c H locs ls C hz hP hD hS hl
  subst hz
  have hts := C.2.2.2.2.2.1
  have hKn := C.2.2.2.2.2.2.1.1 ci _ hc
  refine W.newcK C.1 C.2.1 C.2.2.2.2.1 (hts _ hcl) (hts _ hinst) (hts _ hini) rfl hd hk hn hKn.2.1 rfl (fun H1 kC hkC e1 z1 o1 => ?_)
  obtain ⟨p1, p2, p3⟩ := bz_grow (x := .inr (ci, fs)) (fun q h => Or.inr h) hP hD hS z1 o1 ⟨_, hc, (u_born ty hts hin hKn hkC e1 hty).to hfs⟩
  exact kk p e s m args below meth c H1 locs ls C z1 p1 p2 p3 hl
end GA
theorem bz_oi1 : Cond.instanceMethod Lib.objectInit ∈ bz_tbl := bz_mw 115 (by decide +kernel)
theorem bz_oi2 : Cond.code Lib.objectInit ⟨#[0xb1]⟩ 1 none ∈ bz_tbl := bz_mw 116 (by decide +kernel)
section GI
variable {l : Launch} {E : bz_E} {M : bz_M} {d mc ms : Nat} {L0 : List Nat} {z0 : Nat} {Fn : bz_F} {sz k n : Nat} {L : List Nat} {g : Nat → va_E} {pc q : Nat} {lv : List (Nat × Value)} {st : List Value}
theorem g_objI {idx a : Nat} (hd : decode M.2.1 pc = .ok (.invokespecial idx, 3)) (hq : pc + 3 = q) (hk : Cond.methodLink M.1.cls idx Lib.objectInit ∈ bz_tbl) (hdd : 0 < d) (hr : (st.map fun v => v.category).sum ≤ 8) (kk : bz_G l E M (bz_R d mc ms) L0 z0 Fn sz k n L g q lv st) : bz_G l E M (bz_R d mc ms) L0 z0 Fn sz k n L g pc lv (.ref a :: st) := by
  subst hq
  intro p e s m args below meth c H locs ls C hz hP hD hS hl
  have hts := C.2.2.2.2.2.1
  refine W.objInit C.1 C.2.1 C.2.2.2.2.1 (hts _ hk) (hts _ bz_oi1) (hts _ bz_oi2) rfl (hl.1.trans C.2.2.2.1.symm) rfl hd ?_ ?_ (kk p e s m args below meth c H locs ls C hz hP hD hS hl)
  · exact hdd
  · show 2 * 0 + _ + 12 ≤ 64 * d; omega
end GI
/-- a constructor's block: the object at a, all that it made behind it -/
def ci_S (L : List Nat) (g : Nat → va_E) (a n : Nat) (es : List va_E) (g1 : Nat → va_E) : Prop := es.length = n + 1 ∧ bz_H (bz_pool L a n) g1 a es ∧ ∀ x, x < a → g1 x = g x
def bz_QcI (E : bz_E) (L : List Nat) (a mc : Nat) (Q : (Nat → va_E) → Prop) : Array Value → State → Outcome → State → Prop := fun _ st oc t => ∃ g1 : Nat → va_E, oc = .returned none ∧ Q g1 ∧ t.heap.size = a + 1 + mc ∧ va_P E.1 bz_Cl (va_pl (bz_pool L a mc) g1) t.heap ∧ va_D (fun _ => True) (va_pl (bz_pool L a mc) g1) ∧ ∀ q : Nat, q < st.heap.size → q ∉ L → t.heap[q]? = st.heap[q]?
def bz_KI (l : Launch) (E : bz_E) (M : bz_M) (d mc ms a : Nat) (L : List Nat) (g : Nat → va_E) (Q : (Nat → va_E) → Prop) : Prop := Met l M.1 (bz_ws M) (bz_R d mc ms) (bz_Pc E [.ref a] L g (a + 1)) (bz_QcI E L a mc Q) mc ms (fun q => q ∈ L ∨ a + 1 ≤ q)
def bz_FmI (E : bz_E) (L : List Nat) (a mc ms : Nat) (Q : (Nat → va_E) → Prop) : bz_F := fun below args s => MQ below (bz_QcI E L a mc Q) args s mc ms (fun q => q ∈ L ∨ a + 1 ≤ q)
theorem bz_KI.of {l : Launch} {E : bz_E} {M : bz_M} {d mc ms a : Nat} {L : List Nat} {g : Nat → va_E} {Q : (Nat → va_E) → Prop} (hp : plainName M.1.cls = true) (hn : 1 ≤ M.2.2.1)
    (h : bz_G l E M (bz_R d mc ms) L (a + 1) (bz_FmI E L a mc ms Q) (a + 1 + 0) 0 0 (bz_pool L a 0) g 0 [(0, .ref a)] []) (ht : bz_hh M = some [] := by decide +kernel) : bz_KI l E M d mc ms a L g Q := by
  refine Met.ofW (cc := M.2.1) (maxL := M.2.2.1) (ret := M.2.2.2) (ws' := bz_tbl) hp rfl ?_
  intro p e s m args below meth c s1 B hml hv
  obtain ⟨rfl, hsz, hP, hK, hD, hN, hZ⟩ := hv
  have hts := atoms_spec (ws := bz_ws M) B.pre
  have hl := lv_entry [Value.ref a] (n := M.2.2.1) hn
  rw [lg_entry_eq]
  rw [bz_pool_0] at h
  refine h p e s m _ below meth c s.heap [] _ ⟨B.exec, B.bytes, B.returns, hml, findClass_of_methodNamed B.named, fun w hw => hts w (List.mem_cons_of_mem _ hw), hK, B.notSynchronized, (name_of_methodNamed B.named B.method).1, hsz, hN, hZ, fun t h => bz_tb0 hts (ht.symm.trans h) B⟩ hsz hP (bz_plA hD (fun a ha => Or.inl ha)) va_S.rf ⟨hl.1, hl.2.1, fun i v hv => hl.2.2 (i, v) (bz_mem hv)⟩
theorem gi_ret {l : Launch} {E : bz_E} {M : bz_M} {R : Room} {mc ms a sz pc : Nat} {L Lp : List Nat} {g : Nat → va_E} {lv : List (Nat × Value)} {Q : (Nat → va_E) → Prop} (hd : decode M.2.1 pc = .ok (.return_, 1)) (hr : M.2.2.2 = none) (hsz : sz = a + 1 + mc) (hLp : Lp = bz_pool L a mc) (hQ : Q g) : bz_G l E M R L (a + 1) (bz_FmI E L a mc ms Q) sz mc ms Lp g pc lv [] := by
  subst hsz
  subst hLp
  intro p e s m args below meth c H locs ls C hz hP hD hS hl
  refine W.vret C.1 C.2.1 (C.2.2.1.trans hr) (fun t ht hW => ⟨g, rfl, hQ, by rw [ht]; exact hz, by rw [ht]; exact hP, hD.weaken (fun _ _ _ _ => trivial), fun q hq hn => by rw [ht]; exact hS.2.1 q hq (fun h => h.elim hn (fun h => by omega))⟩) (bz_fr hS C.2.2.2.2.2.2.2.2.2.1) hd C.2.2.2.2.2.2.2.1
/-- a constructor's call -/
def bz_ki (own : String) (idx : Nat) (M2 : bz_M) : Prop := bz_kd M2 0 ∧ (Cond.methodLink own idx M2.1 ∈ bz_tbl ∨ (own, idx, M2.1) ∈ bz_nst) ∧ Cond.instanceMethod M2.1 ∈ bz_tbl ∧ M2.1.name = "<init>" ∧ M2.2.2.2 = none
theorem bz_rmi {R : Room} {d2 mc2 ms2 N : Nat} (h : d2 < R.frames) (h2 : 64 * d2 + 64 ≤ R.locals) (hN : N ≤ 40) : (bz_R d2 mc2 ms2).frames + 1 ≤ R.frames ∧ 8 + (N + 11) + (bz_R d2 mc2 ms2).locals ≤ R.locals := by
  constructor
  · exact h
  · show 8 + (N + 11) + 64 * d2 ≤ R.locals
    omega
theorem bz_afterI {l : Launch} {E : bz_E} {M : bz_M} {L0 : List Nat} {z0 : Nat} {Fn : bz_F} {k n : Nat} {L : List Nat} {g : Nat → va_E} {pc b mc2 ms2 : Nat} {lv : List (Nat × Value)} {p : Program} {e : Env} {s : State} {m : MethodId} {args : Array Value} {below : List Frame} {meth : Method} {c : Code} {H : Heap} {locs : List Loc} {ls : Array Slot} {R : Room} {rest st0 : List Value} {Q2 : (Nat → va_E) → Prop} {a2 : Array Value} (C : bz_C E M L0 z0 p s m args meth c) (hz : H.size = b + 1) (hD : va_D (bz_A L0 s) (va_pl L g)) (hS : va_S (bz_A L0 s) s.heap H locs) (hl : bz_has ls M.2.2.1 lv)
    (hr : va_Run p l e R s m args below meth c H locs k n mc2 ms2 (F0 m pc ls st0) rest (bz_QcI E L b mc2 Q2 a2) (fun q => q ∈ L ∨ b + 1 ≤ q))
    (kk : ∀ g1 : Nat → va_E, Q2 g1 → bz_G l E M R L0 z0 Fn (b + 1 + mc2) (k + mc2) (n + ms2) (bz_pool L b mc2) g1 (pc + 3) lv rest) : W p l e R s m args below meth c H locs k n (Fn below args s) (F0 m pc ls st0) := by
  refine bz_call (A0 := bz_A L0 s) hr hS.2.2 (fun x hx => ?_) (fun v st1 t H1 locs1 h1 h2 hvm hq hl1 => ?_)
  · rcases hx with hx | hx
    · exact bz_plM hD hx
    · exact Or.inr (by have := hS.1; omega)
  · obtain ⟨g1, hoc, hQ, hz1, hP1, hD1, hk1⟩ := hq
    cases hoc
    rw [h2] at hz1 hP1 hk1
    rw [h1] at hk1
    refine kk g1 hQ p e s m args below meth c H1 locs1 ls C hz1 hP1 (bz_plA hD1 (fun a ha => ?_)) ⟨?_, fun x hx hA => ?_, hl1⟩ hl
    · rcases List.mem_append.mp ha with h | h
      · exact bz_plM hD h
      · obtain ⟨i, -, rfl⟩ := List.mem_map.mp h
        exact Or.inr (by have := hS.1; omega)
    · have := hS.1; omega
    · rw [hk1 x (Nat.lt_of_lt_of_le hx hS.1) (fun h => hA (bz_plM hD h))]
      exact hS.2.1 x hx hA
theorem gi_call {l : Launch} {E : bz_E} {M : bz_M} {R : Room} {L0 : List Nat} {z0 : Nat} {Fn : bz_F} {sz k n : Nat} {L : List Nat} {g : Nat → va_E} {pc q : Nat} {lv : List (Nat × Value)} {st : List Value} {M2 : bz_M} {d2 idx mc2 ms2 b : Nat} {rest : List Value} {Q2 : (Nat → va_E) → Prop} (hd : decode M.2.1 pc = .ok (.invokespecial idx, 3)) (hq : pc + 3 = q) (hk : bz_ki M.1.cls idx M2) (hK : bz_KI l E M2 d2 mc2 ms2 b L g Q2) (hdd : d2 < R.frames) (hdl : 64 * d2 + 64 ≤ R.locals) (hst : st = .ref b :: rest) (hsz : sz = b + 1) (hr : (rest.map fun v => v.category).sum ≤ 8) (hkc : k + mc2 ≤ R.cells) (hns : n + ms2 ≤ R.slots)
    (kk : ∀ g1 : Nat → va_E, Q2 g1 → bz_G l E M R L0 z0 Fn (b + 1 + mc2) (k + mc2) (n + ms2) (bz_pool L b mc2) g1 q lv rest) : bz_G l E M R L0 z0 Fn sz k n L g pc lv st := by
  subst hq
  subst hst
  subst hsz
  intro p e s m args below meth c H locs ls C hz hP hD hS hl
  obtain ⟨⟨w1, w2, w3, w4⟩, w5, w6, w7, w8⟩ := hk
  have hts := C.2.2.2.2.2.1
  have hpre : PreS s H (bz_Pc E [.ref b] L g (b + 1)) (.ref b :: []) := ⟨bz_bl, fun U hU hW => ⟨rfl, by rw [hU]; exact hz, by rw [hU]; exact hP, va_K.moved hW.alike C.2.2.2.2.2.2.1, hD.weaken (fun _ _ _ _ => trivial), fun x hx => va_Nw.warmM hW (C.2.2.2.2.2.2.2.2.2.2.1 x hx), bz_Zt C hD hS hU hW⟩⟩
  have hg := bz_gi w1
  unfold bz_ws at hg
  rw [w8] at hg w1
  have hK9 : Met l M2.1 (Cond.code M2.1 M2.2.1 M2.2.2.1 none :: bz_tbl) (bz_R d2 mc2 ms2) (bz_Pc E [.ref b] L g (b + 1)) (bz_QcI E L b mc2 Q2) mc2 ms2 (fun q => q ∈ L ∨ b + 1 ≤ q) := by
    have := hK
    unfold bz_KI bz_ws at this
    rw [w8] at this
    exact this
  rcases w5 with w5 | w5
  · refine bz_afterI C hz hD hS hl (va_runI (b := b) (As := []) (rest := rest) (n := 0) (index := idx) (own := M.1.cls) (nL := M.2.2.1) ⟨C.1, C.2.1, C.2.2.2.1, C.2.2.2.2.1, hts⟩ hK9 ⟨callB_of 0 hts hg rfl rfl rfl (hts _ w2) (hts _ w5) w3 (bz_rmi hdd hdl w4), w7, hts _ w6⟩ hpre rfl rfl hl.1 rfl ?_ hd ⟨hkc, hns⟩) kk
    show 2 * 0 + _ ≤ 8
    omega
  · refine bz_afterI C hz hD hS hl (va_runIN (b := b) (As := []) (rest := rest) (n := 0) (index := idx) (own := M.1.cls) (host := "BusBridge") (nL := M.2.2.1) ⟨C.1, C.2.1, C.2.2.2.1, C.2.2.2.2.1, hts⟩ hK9 ⟨va_cnB 0 hts hg rfl rfl rfl (C.2.2.2.2.2.2.2.2.2.2.1 _ w5) (hts _ w2) w3 (bz_rmi hdd hdl w4), w7, hts _ w6⟩ hpre rfl rfl hl.1 rfl ?_ hd ⟨hkc, hns⟩) kk
    show 2 * 0 + _ ≤ 8
    omega
theorem ci_S.grow {L : List Nat} {g0 g : Nat → va_E} {a n : Nat} {es : List va_E} {x : va_E} (h : ci_S L g0 a n es g) : ci_S L g0 a (n + 1) (es ++ [x]) (va_up g (a + 1 + n) x) := by
  obtain ⟨h1, h2, h3⟩ := h
  refine ⟨by rw [List.length_append, h1]; rfl, fun i e he => ?_, fun y hy => by unfold va_up; rw [if_neg (by omega)]; exact h3 y hy⟩
  rw [bz_pool_s]
  rcases Nat.lt_or_ge i es.length with c | c
  · rw [List.getElem?_append_left c] at he
    obtain ⟨q1, q2⟩ := h2 i e he
    exact ⟨List.mem_append_left _ q1, by unfold va_up; rw [if_neg (by omega)]; exact q2⟩
  · rw [List.getElem?_append_right c] at he
    have hl := (List.getElem?_eq_some_iff.mp he).1
    have hi : i = n + 1 := by simp at hl; omega
    subst hi
    have hx : x = e := by rw [h1, Nat.sub_self] at he; simpa using he
    subst hx
    rw [show a + (n + 1) = a + 1 + n by omega]
    exact ⟨List.mem_append_right _ (List.mem_singleton.mpr rfl), by simp [va_up]⟩
theorem ci_S.put {L : List Nat} {g0 g : Nat → va_E} {a n i : Nat} {es : List va_E} {x : va_E} (h : ci_S L g0 a n es g) (hi : i < es.length) : ci_S L g0 a n (es.set i x) (va_up g (a + i) x) :=
  ⟨by rw [List.length_set]; exact h.1, h.2.1.set hi, fun y hy => by unfold va_up; rw [if_neg (by omega)]; exact h.2.2 y hy⟩
theorem ci_S.app {L : List Nat} {g0 g g1 : Nat → va_E} {a n m : Nat} {es es2 : List va_E} {x : va_E} (h : ci_S L g0 a (n + 1) (es ++ [x]) g) (h2 : ci_S (bz_pool L a (n + 1)) g (a + 1 + n) m es2 g1) : ci_S L g0 a (n + 1 + m) (es ++ es2) g1 := by
  obtain ⟨a1, a2, a3⟩ := h
  obtain ⟨b1, b2, b3⟩ := h2
  have hl : es.length = n + 1 := by rw [List.length_append] at a1; exact Nat.succ.inj a1
  refine ⟨by rw [List.length_append, hl, b1]; omega, fun i e he => ?_, fun y hy => (b3 y (by omega)).trans (a3 y hy)⟩
  rw [bz_pool_a]
  rcases Nat.lt_or_ge i es.length with c | c
  · rw [List.getElem?_append_left c] at he
    obtain ⟨q1, q2⟩ := a2 i e (by rw [List.getElem?_append_left c]; exact he)
    exact ⟨List.mem_append_left _ q1, (b3 _ (by omega)).trans q2⟩
  · rw [List.getElem?_append_right c] at he
    have := b2 (i - es.length) e he
    rw [show a + 1 + n + (i - es.length) = a + i by omega] at this
    exact this
section GC
variable {l : Launch} {E : bz_E} {M : bz_M} {R : Room} {L0 : List Nat} {z0 : Nat} {Fn : bz_F} {k n : Nat} {L : List Nat} {g0 g : Nat → va_E} {pc q : Nat} {lv : List (Nat × Value)} {st : List Value} {a j : Nat} {es : List va_E}
theorem gi_arr {atype : ArrayType} {ty : FieldType} {t0 N : Nat} {cA0 : ClassId} {x0 : (Nat → Int32) ⊕ (Nat → Int64) ⊕ (Nat → UInt32) ⊕ (Nat → UInt64) ⊕ (Nat → Option Nat)} (hC : ci_S L g0 a j es g) (hd : decode M.2.1 pc = .ok (.newarray atype, 2)) (hq : pc + 2 = q) (hty : newarray.typeOf atype = ty) (hw : Cond.arrayClass ty ∈ bz_tbl) (ht : (bz_tys E)[t0]? = some (cA0, ty)) (hRA : ∀ (U : State) (cA : ClassId), va_RA U cA ty → U.vm.findClass ("[" ++ ty.toString) = some cA) (hx : ∀ cA : ClassId, vp_cell cA (N, x0) = arrV cA N (fun _ => defaultValue ty)) (hN : N < 100000) (hb : N * componentBytes ty ≤ 536870912) (hk : k + 1 ≤ R.cells) (hn : n + N ≤ R.slots)
    (kk : ∀ g1 : Nat → va_E, ci_S L g0 a (j + 1) (es ++ [.inl (cA0, N, x0)]) g1 → bz_G l E M R L0 z0 Fn (a + 1 + (j + 1)) (k + 1) (n + N) (bz_pool L a (j + 1)) g1 q lv (.ref (a + 1 + j) :: st)) : bz_G l E M R L0 z0 Fn (a + 1 + j) k n (bz_pool L a j) g pc lv (.int (nI N) :: st) := by
  refine g_newarr hd hq hty hw ht hRA hx hN hb hk hn ?_
  rw [← bz_pool_s]
  exact kk _ hC.grow
theorem gi_new {idx ci N : Nat} {CN : String} {T : u_T} {ty : Nat → FieldType} {fs : List Value} (hC : ci_S L g0 a j es g) (hd : decode M.2.1 pc = .ok (.new idx, 3)) (hq : pc + 3 = q) (hc : bz_Cl[ci]? = some (CN, T, N)) (hin : ∀ w ∈ u_ws CN T N, w ∈ bz_tbl) (hty : ∀ k, k < N → parseFieldDescriptor (T k).2.2.1 = some (ty k)) (hcl : Cond.classLink M.1.cls idx CN ∈ bz_tbl) (hinst : Cond.instantiable CN N ∈ bz_tbl) (hini : Cond.initialized CN ∈ bz_tbl) (hfs : ∀ j, j < N → defaultValue (ty j) = vp_V fs j) (hk : k + 1 ≤ R.cells) (hn : n + N ≤ R.slots)
    (kk : ∀ g1 : Nat → va_E, ci_S L g0 a (j + 1) (es ++ [.inr (ci, fs)]) g1 → bz_G l E M R L0 z0 Fn (a + 1 + (j + 1)) (k + 1) (n + N) (bz_pool L a (j + 1)) g1 q lv (.ref (a + 1 + j) :: st)) : bz_G l E M R L0 z0 Fn (a + 1 + j) k n (bz_pool L a j) g pc lv st := by
  refine g_newobj hd hq hc hin hty hcl hinst hini hfs hk hn ?_
  rw [← bz_pool_s]
  exact kk _ hC.grow
theorem gi_sub {M2 : bz_M} {d2 idx mc2 ms2 : Nat} {x : va_E} {es2 : List va_E} {rest : List Value} (hC : ci_S L g0 a (j + 1) (es ++ [x]) g) (hd : decode M.2.1 pc = .ok (.invokespecial idx, 3)) (hq : pc + 3 = q) (hk : bz_ki M.1.cls idx M2) (hK : bz_KI l E M2 d2 mc2 ms2 (a + 1 + j) (bz_pool L a (j + 1)) g (ci_S (bz_pool L a (j + 1)) g (a + 1 + j) mc2 es2)) (hdd : d2 < R.frames) (hdl : 64 * d2 + 64 ≤ R.locals) (hst : st = .ref (a + 1 + j) :: rest) (hr : (rest.map fun v => v.category).sum ≤ 8) (hkc : k + mc2 ≤ R.cells) (hns : n + ms2 ≤ R.slots)
    (kk : ∀ g1 : Nat → va_E, ci_S L g0 a (j + 1 + mc2) (es ++ es2) g1 → bz_G l E M R L0 z0 Fn (a + 1 + (j + 1 + mc2)) (k + mc2) (n + ms2) (bz_pool L a (j + 1 + mc2)) g1 q lv rest) : bz_G l E M R L0 z0 Fn (a + 1 + (j + 1)) k n (bz_pool L a (j + 1)) g pc lv st := by
  refine gi_call hd hq hk hK hdd hdl hst (by omega) hr hkc hns (fun g1 h1 => ?_)
  rw [← bz_pool_a, show a + 1 + j + 1 + mc2 = a + 1 + (j + 1 + mc2) by omega]
  exact kk g1 (hC.app h1)
theorem gi_putF {idx ci x i : Nat} {ty : FieldType} {fs : List Value} {v : Value} {b : Nat} (hC : ci_S L g0 a j es g) (hd : decode M.2.1 pc = .ok (.putfield idx, 3)) (hq : pc + 3 = q) (hf : bz_fp M.1.cls idx ci x true ty) (hname : M.1.name = "<init>") (he : es[i]? = some (.inr (ci, fs))) (ha : b = a + i) (hl0 : x < fs.length) (hn : narrow ty v = v) (hfit : fits ty v = true)
    (kk : ∀ g1 : Nat → va_E, ci_S L g0 a j (es.set i (.inr (ci, fs.set x v))) g1 → bz_G l E M R L0 z0 Fn (a + 1 + j) k n (bz_pool L a j) g1 q lv st) : bz_G l E M R L0 z0 Fn (a + 1 + j) k n (bz_pool L a j) g pc lv (v :: .ref b :: st) := by
  subst ha
  exact g_putF hd hq hf hname (hC.2.1 i _ he).1 (hC.2.1 i _ he).2 hl0 hn hfit (kk _ (hC.put (List.getElem?_eq_some_iff.mp he).1))
theorem gi_putf {idx ci x i : Nat} {ty : FieldType} {fs : List Value} {v : Value} {b : Nat} (hC : ci_S L g0 a j es g) (hd : decode M.2.1 pc = .ok (.putfield idx, 3)) (hq : pc + 3 = q) (hf : bz_fp M.1.cls idx ci x false ty) (he : es[i]? = some (.inr (ci, fs))) (ha : b = a + i) (hl0 : x < fs.length) (hn : narrow ty v = v) (hfit : fits ty v = true)
    (kk : ∀ g1 : Nat → va_E, ci_S L g0 a j (es.set i (.inr (ci, fs.set x v))) g1 → bz_G l E M R L0 z0 Fn (a + 1 + j) k n (bz_pool L a j) g1 q lv st) : bz_G l E M R L0 z0 Fn (a + 1 + j) k n (bz_pool L a j) g pc lv (v :: .ref b :: st) := by
  subst ha
  exact g_putf hd hq hf (hC.2.1 i _ he).1 (hC.2.1 i _ he).2 hl0 hn hfit (kk _ (hC.put (List.getElem?_eq_some_iff.mp he).1))
end GC
