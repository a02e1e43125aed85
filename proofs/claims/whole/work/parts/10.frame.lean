/-! THE WALK'S OWN JUDGEMENT: bz_G hides the machine (context, frame, words, room); a pool of cells L with contents g; locals as a list that shadows. -/
abbrev bz_M : Type := MethodName × ByteArray × Nat × Option FieldType
/-- the words of the tables that last -/
def bz_tbl : List Cond := lw_tbl.filter goodWord
/-- the classes' numbers; where the texts of constants lie (the objects, their bytes) -/
abbrev bz_E : Type := va_G × ((Nat → Nat) × (Nat → Nat))
abbrev bz_Cl : List vw_C := [(RX0, TX0, 13), (RX1, TX1, 3), (RX2, TX2, 3), (RX3, TX3, 8), (RX4, TX4, 7), (RX5, TX5, 4), (RX6, TX6, 3), (RX7, TX7, 4), (RX8, TX8, 13), (RX9, TX9, 31)]
def bz_tys (E : bz_E) : List (ClassId × FieldType) := [(E.1.1 20, .byte), (E.1.1 21, .int), (E.1.1 22, .boolean), (E.1.1 23, .object "BusBridge$Situation"), (E.1.1 24, .long), (E.1.1 25, .double)]
def bz_nst : List (String × Nat × MethodName) := [(RX8, 15, yX0_init), (RX8, 22, yX3_init), (RX3, 26, yX6_init), (RX8, 32, yX5_init), (RX5, 11, yX4_init), (RX4, 11, yX2_init), (RX4, 23, yX7_init), (RX1, 17, yX5_init), (RX4, 41, yX8_cellOf), (RX3, 55, yX8_cellOf), (RX2, 38, yX8_cellOf), (RX0, 163, yX8_cellOf), (RX7, 36, yX8_cellOf), (RX7, 46, yX8_hasBit)]
def bz_N (s : State) : Prop := ∀ q ∈ bz_nst, va_Nw (.methodLinkNest q.1 q.2.1 q.2.2 "BusBridge") s
def bz_len : List Nat := [6, 6, 5, 4, 7, 5, 4, 4, 7, 5, 4]
def bz_byt : List (List Int32) := [[98, 117, 102, 102, 101, 114], [99, 114, 101, 100, 105, 116], [116, 97, 98, 108, 101], [119, 111, 114, 100], [108, 97, 116, 101, 110, 99, 121], [115, 112, 108, 105, 116], [116, 97, 103, 115], [107, 105, 110, 100], [97, 100, 100, 114, 101, 115, 115], [119, 111, 114, 100, 115], [116, 105, 99, 107]]
def bz_str : List (String × Nat × String × Nat) := [(RX8, 73, "no such length", 11), (RX0, 60, "buffer", 0), (RX0, 73, "credit", 1), (RX0, 78, "table", 2), (RX0, 82, "word", 3), (RX0, 87, "latency", 4), (RX0, 155, "kind", 7), (RX0, 157, "address", 8), (RX0, 159, "words", 9), (RX0, 161, "tick", 10), (RX0, 101, "split", 5), (RX0, 109, "tags", 6), (RX8, 274, "no such kind", 12), (RX8, 272, "no such side", 13), (RX8, 278, "no such position", 14), (RX8, 158, "no such address", 15), (RX8, 283, "no such tag", 16), (RX8, 184, "this word has not been stored", 17), (RX8, 226, "1 to 300 ticks", 18), (RX8, 228, "the last tick is 9999", 19), (RX8, 285, "no such number of words", 20), (RX8, 290, "no room in the buffer", 21), (RX8, 295, "no free tag", 22), (RX8, 255, "the tag is not complete", 23), (RX8, 276, "no such slot", 24), (RX8, 270, "the slot is empty", 25), (RX9, 158, "buffer", 0), (RX9, 168, "credit", 1), (RX9, 170, "table", 2), (RX9, 171, "word", 3), (RX9, 173, "split", 5), (RX9, 178, "tags", 6), (RX9, 180, "latency", 4), (RX9, 198, "kind", 7), (RX9, 200, "address", 8), (RX9, 202, "words", 9), (RX9, 204, "tick", 10)]
/-- what the machine's own classes hold: for texts, for what is thrown and caught -/
def bz_ncs : List (String × String) := [("java/lang/IllegalArgumentException", "java/lang/IllegalStateException"), ("java/lang/IllegalArgumentException", "java/lang/IndexOutOfBoundsException"), ("java/lang/IllegalStateException", "java/lang/IllegalArgumentException"), ("java/lang/IllegalStateException", "java/lang/IndexOutOfBoundsException"), ("java/lang/IndexOutOfBoundsException", "java/lang/IllegalArgumentException"), ("java/lang/IndexOutOfBoundsException", "java/lang/IllegalStateException")]
def bz_xs : List String := ["java/lang/IllegalArgumentException", "java/lang/IllegalStateException", "java/lang/IndexOutOfBoundsException"]
def bz_ds : List MethodName := [⟨"java/lang/RuntimeException", "<init>", "(Ljava/lang/String;)V"⟩, ⟨"java/lang/Exception", "<init>", "(Ljava/lang/String;)V"⟩, ⟨"java/lang/Throwable", "<init>", "(Ljava/lang/String;)V"⟩]
def bz_Y (A : Nat → Prop) (s : State) (H : Heap) : Prop := va_Z "java/lang/String" "COMPACT_STRINGS" "Z" (.int 1) A s H ∧ va_Zq "jdk/internal/util/Preconditions" "SIOOBE_FORMATTER" "Ljava/util/function/BiFunction;" A s H ∧ vx_Zq Bundle.tN "UNASSIGNED_STACK" Bundle.steD A s H ∧ vx_Zq Bundle.tN "SUPPRESSED_SENTINEL" Bundle.listD A s H ∧ (∀ q ∈ bz_ncs, va_Nc q.1 q.2 s) ∧ va_AO "BusBridge$Situation" s ∧ (∀ c ∈ bz_xs, (Cond.castable c c).before #[] s = true) ∧ ∀ x ∈ bz_ds, (Cond.declares x).before #[] s = true
theorem bz_Y.moved {A : Nat → Prop} {u U : State} {H : Heap} (hvm : u.vm.Alike U.vm) (h : bz_Y A u H) : bz_Y A U H :=
  ⟨va_Z.moved hvm h.1, va_Zq.moved hvm h.2.1, vx_Zq.moved hvm h.2.2.1, vx_Zq.moved hvm h.2.2.2.1, fun q hq => va_Nc.moved hvm (h.2.2.2.2.1 q hq), va_AO.moved hvm h.2.2.2.2.2.1, fun c hc => va_tabs rfl (rfl : (u.setVm U.vm).vm = U.vm) (by rw [Cond.castable_setVm hvm]; exact h.2.2.2.2.2.2.1 c hc), fun x hx => va_tabs rfl (rfl : (u.setVm U.vm).vm = U.vm) (by rw [Cond.declares_setVm hvm]; exact h.2.2.2.2.2.2.2 x hx)⟩
theorem bz_Y.kept {A : Nat → Prop} {U : State} {H H1 : Heap} (h : bz_Y A U H) (hq : ∀ a : Nat, a < H.size → ¬ A a → H1[a]? = H[a]?) : bz_Y A U H1 :=
  ⟨va_Z.kept h.1 hq, va_Zq.kept h.2.1 hq, vx_Zq.kept h.2.2.1 hq, vx_Zq.kept h.2.2.2.1 hq, h.2.2.2.2⟩
theorem bz_Y.narrow {A B : Nat → Prop} {U : State} {H : Heap} (h : bz_Y A U H) (hAB : ∀ q, B q → A q) : bz_Y B U H :=
  ⟨va_Z.narrow h.1 hAB, va_Zq.narrow h.2.1 hAB, vx_Zq.narrow h.2.2.1 hAB, vx_Zq.narrow h.2.2.2.1 hAB, h.2.2.2.2⟩
def bz_Z (E : bz_E) (A : Nat → Prop) (s : State) (H : Heap) : Prop := (∀ i : Nat, i < 11 → vk_S 1 [bz_len.getD i 0] [bz_byt.getD i []] (fun _ => E.2.1 i) (fun _ => E.2.2 i) A s H) ∧ (∀ q ∈ bz_str, vk_R q.1 q.2.1 q.2.2.1 (E.2.1 q.2.2.2) s) ∧ bz_Y A s H
def bz_A (L0 : List Nat) (s : State) : Nat → Prop := fun q => q ∈ L0 ∨ s.heap.size ≤ q
/-- the tables of handlers: the law's helpers have one, its entry is not told of, all other methods have none -/
def bz_hht : List (String × List (Nat × Nat × Nat × Nat)) := [("parse", [(0, 9, 12, 13)]), ("mayPass", [(0, 19, 22, 19)]), ("holds", [(0, 17, 20, 19)]), ("waiting", [(0, 9, 12, 19)]), ("kindAt", [(0, 10, 13, 19)]), ("tagAt", [(0, 10, 13, 19)]), ("blockers", [(0, 10, 13, 19)]), ("next", [(0, 9, 12, 19)]), ("held", [(0, 10, 13, 19)]), ("word", [(0, 10, 13, 19)]), ("tagState", [(0, 10, 13, 19)]), ("stored", [(0, 10, 13, 19)]), ("data", [(0, 12, 15, 19), (0, 12, 19, 57)]), ("forwarded", [(0, 9, 12, 19)]), ("passings", [(0, 9, 12, 19)]), ("utilisation", [(0, 8, 11, 19)]), ("averageWait", [(0, 9, 12, 19)]), ("completeTick", [(0, 10, 13, 19)]), ("run", [(0, 9, 12, 13), (0, 9, 15, 57)]), ("post", [(0, 16, 19, 19), (0, 16, 23, 13), (0, 16, 27, 57)]), ("read", [(0, 14, 17, 19), (0, 14, 21, 13), (0, 14, 25, 57)]), ("configure", [(0, 14, 17, 19), (0, 14, 21, 13), (0, 14, 25, 57)]), ("release", [(0, 10, 13, 19), (0, 10, 17, 57)]), ("saveSnapshot", [(0, 16, 19, 19)]), ("restoreSnapshot", [(0, 9, 12, 19), (0, 9, 15, 57)])]
def bz_hh (M : bz_M) : Option (List (Nat × Nat × Nat × Nat)) := if M.1.cls = "BusBridgeLaw" then bz_hht.lookup M.1.name else some []
def bz_C (E : bz_E) (M : bz_M) (L0 : List Nat) (z0 : Nat) (p : Program) (s : State) (m : MethodId) (args : Array Value) (meth : Method) (c : Code) : Prop :=
  p.tables.exec = Jvm.exec ∧ c.code = M.2.1 ∧ meth.sig.returnType = M.2.2.2 ∧ c.maxLocals = M.2.2.1 ∧ s.vm.findClass M.1.cls = some m.cls ∧ (∀ w ∈ bz_tbl, w.before args s = true) ∧ va_K E.1 bz_Cl (bz_tys E) s ∧ meth.locks = false ∧ meth.name = M.1.name ∧ s.heap.size = z0 ∧ bz_N s ∧ bz_Z E (bz_A L0 s) s s.heap ∧ ∀ t, bz_hh M = some t → c.exceptionTable.toList = tableOf t
abbrev bz_F : Type := List Frame → Array Value → State → State → Prop
def bz_has (ls : Array Slot) (nL : Nat) (lv : List (Nat × Value)) : Prop := ls.size = nL ∧ lv_wf ls ∧ ∀ (i : Nat) (v : Value), lv.lookup i = some v → ls[i]? = some (.val v)
def bz_nd (lv : List (Nat × Value)) : List (Nat × Value) := lv.filterMap (fun q => (lv.lookup q.1).map (fun w => (q.1, w)))
theorem bz_mem {lv : List (Nat × Value)} {i : Nat} {v : Value} (h : lv.lookup i = some v) : (i, v) ∈ lv := by
  induction lv with
  | nil => cases h
  | cons q r ih =>
    obtain ⟨j, w⟩ := q
    by_cases hj : i = j
    · subst hj
      simp [List.lookup_cons] at h
      subst h
      exact List.mem_cons_self
    · have hb : (i == j) = false := by simp [hj]
      simp only [List.lookup_cons, hb] at h
      exact List.mem_cons_of_mem _ (ih h)
theorem bz_look {lv : List (Nat × Value)} {i : Nat} {v : Value} (h : lv.lookup i = some v) : (i, v) ∈ bz_nd lv :=
  List.mem_filterMap.mpr ⟨(i, v), bz_mem h, by simp [h]⟩
theorem bz_has.lv {ls : Array Slot} {nL : Nat} {lv : List (Nat × Value)} (h : bz_has ls nL lv) : lv_has ls nL (bz_nd lv) := by
  refine ⟨h.1, h.2.1, fun q hq => ?_⟩
  obtain ⟨p, hp, he⟩ := List.mem_filterMap.mp hq
  cases hl : lv.lookup p.1 with
  | none => rw [hl] at he; cases he
  | some w =>
    rw [hl] at he
    cases he
    exact h.2.2 _ _ hl
theorem bz_has.put {ls : Array Slot} {nL i : Nat} {v : Value} {lv : List (Nat × Value)} (hc : lv.all (fun q => q.2.category == 1) = true) (h : lv_has ls nL ((i, v) :: (bz_nd lv).filter (fun q => !(q.1 == i) && !(q.1 + 1 == i && q.2.category == 2)))) : bz_has ls nL ((i, v) :: lv) := by
  refine ⟨h.1, h.2.1, fun j w hw => ?_⟩
  by_cases hj : j = i
  · subst hj
    rw [List.lookup_cons, beq_self_eq_true] at hw
    cases hw
    exact h.2.2 (j, v) List.mem_cons_self
  · have hb : (j == i) = false := by simp [hj]
    simp only [List.lookup_cons, hb] at hw
    have hm := bz_look hw
    refine h.2.2 (j, w) (List.mem_cons_of_mem _ (List.mem_filter.mpr ⟨hm, ?_⟩))
    have hcat : w.category = 1 := by
      simpa using List.all_eq_true.mp hc _ (bz_mem hw)
    simp [hj, hcat]
def bz_G (l : Launch) (E : bz_E) (M : bz_M) (R : Room) (L0 : List Nat) (z0 : Nat) (Fn : bz_F) (sz k n : Nat) (L : List Nat) (g : Nat → va_E) (pc : Nat) (lv : List (Nat × Value)) (st : List Value) : Prop :=
  ∀ (p : Program) (e : Env) (s : State) (m : MethodId) (args : Array Value) (below : List Frame) (meth : Method) (c : Code) (H : Heap) (locs : List Loc) (ls : Array Slot), bz_C E M L0 z0 p s m args meth c → H.size = sz → va_P E.1 bz_Cl (va_pl L g) H → va_D (bz_A L0 s) (va_pl L g) → va_S (bz_A L0 s) s.heap H locs → bz_has ls M.2.2.1 lv → W p l e R s m args below meth c H locs k n (Fn below args s) (F0 m pc ls st)
theorem bz_at {L : List Nat} {g : Nat → va_E} {a : Nat} {e : va_E} (hL : a ∈ L) (hg : g a = e) : ∃ k : Nat, (va_pl L g)[k]? = some (a, e) := by
  obtain ⟨k, hk⟩ := va_pl_get (X := []) (f := g) hL
  exact ⟨k, by rw [← hg]; exact hk⟩
theorem bz_up {A : Nat → Prop} {L : List Nat} {g : Nat → va_E} {a k : Nat} {e e1 : va_E} (hD : va_D A (va_pl L g)) (hL : a ∈ L) (hg : g a = e) (hk : (va_pl L g)[k]? = some (a, e)) : (va_pl L g).set k (a, e1) = va_pl L (va_up g a e1) :=
  va_pl_set (X := []) hD hL (by rw [hg]; exact hk)
theorem bz_kk {E : bz_E} {A : Nat → Prop} {L : List Nat} {g : Nat → va_E} {a i : Nat} {e0 e1 : va_E} {H H1 : Heap} (hP : va_P E.1 bz_Cl (va_pl L g) H) (hD : va_D A (va_pl L g)) (hL : a ∈ L) (hg : g a = e0) (hi : (va_pl L g)[i]? = some (a, e0)) (he : va_at E.1 bz_Cl (a, e1) H1) (oq : ∀ q : Nat, q ≠ a → H1[q]? = H[q]?) : va_P E.1 bz_Cl (va_pl L (va_up g a e1)) H1 ∧ va_D A (va_pl L (va_up g a e1)) := by
  have h1 := hP.set hD hi he oq
  have h2 := hD.set (e := e1) hi
  rw [bz_up hD hL hg hi] at h1 h2
  exact ⟨h1, h2⟩
section BZ
variable {l : Launch} {E : bz_E} {M : bz_M} {R : Room} {L0 : List Nat} {z0 : Nat} {Fn : bz_F} {sz k n : Nat} {L : List Nat} {g : Nat → va_E} {pc q : Nat} {lv : List (Nat × Value)} {st : List Value}

theorem g_iconst {i : Int} {v : Int32} (hd : decode M.2.1 pc = .ok (.iconst i, 1)) (hq : pc + 1 = q) (hv : Int32.ofInt i = v) (kk : bz_G l E M R L0 z0 Fn sz k n L g q lv (.int v :: st)) : bz_G l E M R L0 z0 Fn sz k n L g pc lv (st) := by
  subst hq
  intro p e s m args below meth c H locs ls C hz hP hD hS hl
  exact lv_iconst C.1 C.2.1 hd hv (kk p e s m args below meth c H locs ls C hz hP hD hS hl)
theorem g_bipush {i : Int} {v : Int32} (hd : decode M.2.1 pc = .ok (.bipush i, 2)) (hq : pc + 2 = q) (hv : (Int8.ofInt i).toInt32 = v) (kk : bz_G l E M R L0 z0 Fn sz k n L g q lv (.int v :: st)) : bz_G l E M R L0 z0 Fn sz k n L g pc lv (st) := by
  subst hq
  intro p e s m args below meth c H locs ls C hz hP hD hS hl
  exact lv_bipush C.1 C.2.1 hd hv (kk p e s m args below meth c H locs ls C hz hP hD hS hl)
theorem g_sipush {i : Int} {v : Int32} (hd : decode M.2.1 pc = .ok (.sipush i, 3)) (hq : pc + 3 = q) (hv : (Int16.ofInt i).toInt32 = v) (kk : bz_G l E M R L0 z0 Fn sz k n L g q lv (.int v :: st)) : bz_G l E M R L0 z0 Fn sz k n L g pc lv (st) := by
  subst hq
  intro p e s m args below meth c H locs ls C hz hP hD hS hl
  exact lv_sipush C.1 C.2.1 hd hv (kk p e s m args below meth c H locs ls C hz hP hD hS hl)
theorem g_lconst {i : Fin 2} {v : Int64} (hd : decode M.2.1 pc = .ok (.lconst i, 1)) (hq : pc + 1 = q) (hv : Int64.ofNat (i : Nat) = v) (kk : bz_G l E M R L0 z0 Fn sz k n L g q lv (.long v :: st)) : bz_G l E M R L0 z0 Fn sz k n L g pc lv (st) := by
  subst hq
  intro p e s m args below meth c H locs ls C hz hP hD hS hl
  exact lv_lconst C.1 C.2.1 hd hv (kk p e s m args below meth c H locs ls C hz hP hD hS hl)
theorem g_fconst0 (hd : decode M.2.1 pc = .ok (.fconst 0, 1)) (hq : pc + 1 = q) (kk : bz_G l E M R L0 z0 Fn sz k n L g q lv (.float 0 :: st)) : bz_G l E M R L0 z0 Fn sz k n L g pc lv (st) := by
  subst hq
  intro p e s m args below meth c H locs ls C hz hP hD hS hl
  exact lv_fconst0 C.1 C.2.1 hd (kk p e s m args below meth c H locs ls C hz hP hD hS hl)
theorem g_fconst1 (hd : decode M.2.1 pc = .ok (.fconst 1, 1)) (hq : pc + 1 = q) (kk : bz_G l E M R L0 z0 Fn sz k n L g q lv (.float 1065353216 :: st)) : bz_G l E M R L0 z0 Fn sz k n L g pc lv (st) := by
  subst hq
  intro p e s m args below meth c H locs ls C hz hP hD hS hl
  exact lv_fconst1 C.1 C.2.1 hd (kk p e s m args below meth c H locs ls C hz hP hD hS hl)
theorem g_fconst2 (hd : decode M.2.1 pc = .ok (.fconst 2, 1)) (hq : pc + 1 = q) (kk : bz_G l E M R L0 z0 Fn sz k n L g q lv (.float 1073741824 :: st)) : bz_G l E M R L0 z0 Fn sz k n L g pc lv (st) := by
  subst hq
  intro p e s m args below meth c H locs ls C hz hP hD hS hl
  exact lv_fconst2 C.1 C.2.1 hd (kk p e s m args below meth c H locs ls C hz hP hD hS hl)
theorem g_dconst0 (hd : decode M.2.1 pc = .ok (.dconst 0, 1)) (hq : pc + 1 = q) (kk : bz_G l E M R L0 z0 Fn sz k n L g q lv (.double 0 :: st)) : bz_G l E M R L0 z0 Fn sz k n L g pc lv (st) := by
  subst hq
  intro p e s m args below meth c H locs ls C hz hP hD hS hl
  exact lv_dconst0 C.1 C.2.1 hd (kk p e s m args below meth c H locs ls C hz hP hD hS hl)
theorem g_iload_n {j : Fin 4} {x : Int32} (hd : decode M.2.1 pc = .ok (.iload_n j, 1)) (hq : pc + 1 = q) (hv : lv.lookup (j : Nat) = some (.int x)) (kk : bz_G l E M R L0 z0 Fn sz k n L g q lv (.int x :: st)) : bz_G l E M R L0 z0 Fn sz k n L g pc lv (st) := by
  subst hq
  intro p e s m args below meth c H locs ls C hz hP hD hS hl
  exact lv_iload_n C.1 C.2.1 hd rfl (hl.2.2 _ _ hv) (kk p e s m args below meth c H locs ls C hz hP hD hS hl)
theorem g_iload {i : Nat} {x : Int32} (hd : decode M.2.1 pc = .ok (.iload i, 2)) (hq : pc + 2 = q) (hv : lv.lookup i = some (.int x)) (kk : bz_G l E M R L0 z0 Fn sz k n L g q lv (.int x :: st)) : bz_G l E M R L0 z0 Fn sz k n L g pc lv (st) := by
  subst hq
  intro p e s m args below meth c H locs ls C hz hP hD hS hl
  exact lv_iload C.1 C.2.1 hd (hl.2.2 _ _ hv) (kk p e s m args below meth c H locs ls C hz hP hD hS hl)
theorem g_aload_n {j : Fin 4} {x : Nat} (hd : decode M.2.1 pc = .ok (.aload_n j, 1)) (hq : pc + 1 = q) (hv : lv.lookup (j : Nat) = some (.ref x)) (kk : bz_G l E M R L0 z0 Fn sz k n L g q lv (.ref x :: st)) : bz_G l E M R L0 z0 Fn sz k n L g pc lv (st) := by
  subst hq
  intro p e s m args below meth c H locs ls C hz hP hD hS hl
  exact lv_aload_n C.1 C.2.1 hd rfl (hl.2.2 _ _ hv) (kk p e s m args below meth c H locs ls C hz hP hD hS hl)
theorem g_aload {i : Nat} {x : Nat} (hd : decode M.2.1 pc = .ok (.aload i, 2)) (hq : pc + 2 = q) (hv : lv.lookup i = some (.ref x)) (kk : bz_G l E M R L0 z0 Fn sz k n L g q lv (.ref x :: st)) : bz_G l E M R L0 z0 Fn sz k n L g pc lv (st) := by
  subst hq
  intro p e s m args below meth c H locs ls C hz hP hD hS hl
  exact lv_aload C.1 C.2.1 hd (hl.2.2 _ _ hv) (kk p e s m args below meth c H locs ls C hz hP hD hS hl)
theorem g_fload_n {j : Fin 4} {x : UInt32} (hd : decode M.2.1 pc = .ok (.fload_n j, 1)) (hq : pc + 1 = q) (hv : lv.lookup (j : Nat) = some (.float x)) (kk : bz_G l E M R L0 z0 Fn sz k n L g q lv (.float x :: st)) : bz_G l E M R L0 z0 Fn sz k n L g pc lv (st) := by
  subst hq
  intro p e s m args below meth c H locs ls C hz hP hD hS hl
  exact lv_fload_n C.1 C.2.1 hd rfl (hl.2.2 _ _ hv) (kk p e s m args below meth c H locs ls C hz hP hD hS hl)
theorem g_fload {i : Nat} {x : UInt32} (hd : decode M.2.1 pc = .ok (.fload i, 2)) (hq : pc + 2 = q) (hv : lv.lookup i = some (.float x)) (kk : bz_G l E M R L0 z0 Fn sz k n L g q lv (.float x :: st)) : bz_G l E M R L0 z0 Fn sz k n L g pc lv (st) := by
  subst hq
  intro p e s m args below meth c H locs ls C hz hP hD hS hl
  exact lv_fload C.1 C.2.1 hd (hl.2.2 _ _ hv) (kk p e s m args below meth c H locs ls C hz hP hD hS hl)
theorem g_dload_n {j : Fin 4} {x : UInt64} (hd : decode M.2.1 pc = .ok (.dload_n j, 1)) (hq : pc + 1 = q) (hv : lv.lookup (j : Nat) = some (.double x)) (kk : bz_G l E M R L0 z0 Fn sz k n L g q lv (.double x :: st)) : bz_G l E M R L0 z0 Fn sz k n L g pc lv (st) := by
  subst hq
  intro p e s m args below meth c H locs ls C hz hP hD hS hl
  exact lv_dload_n C.1 C.2.1 hd rfl (hl.2.2 _ _ hv) (kk p e s m args below meth c H locs ls C hz hP hD hS hl)
theorem g_dload {i : Nat} {x : UInt64} (hd : decode M.2.1 pc = .ok (.dload i, 2)) (hq : pc + 2 = q) (hv : lv.lookup i = some (.double x)) (kk : bz_G l E M R L0 z0 Fn sz k n L g q lv (.double x :: st)) : bz_G l E M R L0 z0 Fn sz k n L g pc lv (st) := by
  subst hq
  intro p e s m args below meth c H locs ls C hz hP hD hS hl
  exact lv_dload C.1 C.2.1 hd (hl.2.2 _ _ hv) (kk p e s m args below meth c H locs ls C hz hP hD hS hl)
theorem g_istore_n {j : Fin 4} {i : Nat} {x : Int32} (hi : (j : Nat) = i) (hd : decode M.2.1 pc = .ok (.istore_n j, 1)) (hq : pc + 1 = q) (hn : i < M.2.2.1) (hc : lv.all (fun z => z.2.category == 1) = true) (kk : bz_G l E M R L0 z0 Fn sz k n L g q ((i, .int x) :: lv) st) : bz_G l E M R L0 z0 Fn sz k n L g pc lv (.int x :: st) := by
  subst hq
  intro p e s m args below meth c H locs ls C hz hP hD hS hl
  exact lv_istore_n C.1 C.2.1 hd hi hl.lv hn rfl (fun ls1 h1 => kk p e s m args below meth c H locs ls1 C hz hP hD hS (bz_has.put hc h1))
theorem g_istore {i : Nat} {x : Int32} (hd : decode M.2.1 pc = .ok (.istore i, 2)) (hq : pc + 2 = q) (hn : i < M.2.2.1) (hc : lv.all (fun z => z.2.category == 1) = true) (kk : bz_G l E M R L0 z0 Fn sz k n L g q ((i, .int x) :: lv) st) : bz_G l E M R L0 z0 Fn sz k n L g pc lv (.int x :: st) := by
  subst hq
  intro p e s m args below meth c H locs ls C hz hP hD hS hl
  exact lv_istore C.1 C.2.1 hd hl.lv hn rfl (fun ls1 h1 => kk p e s m args below meth c H locs ls1 C hz hP hD hS (bz_has.put hc h1))
theorem g_astore_n {j : Fin 4} {i : Nat} {x : Nat} (hi : (j : Nat) = i) (hd : decode M.2.1 pc = .ok (.astore_n j, 1)) (hq : pc + 1 = q) (hn : i < M.2.2.1) (hc : lv.all (fun z => z.2.category == 1) = true) (kk : bz_G l E M R L0 z0 Fn sz k n L g q ((i, .ref x) :: lv) st) : bz_G l E M R L0 z0 Fn sz k n L g pc lv (.ref x :: st) := by
  subst hq
  intro p e s m args below meth c H locs ls C hz hP hD hS hl
  exact lv_astore_n C.1 C.2.1 hd hi hl.lv hn rfl (fun ls1 h1 => kk p e s m args below meth c H locs ls1 C hz hP hD hS (bz_has.put hc h1))
theorem g_astore {i : Nat} {x : Nat} (hd : decode M.2.1 pc = .ok (.astore i, 2)) (hq : pc + 2 = q) (hn : i < M.2.2.1) (hc : lv.all (fun z => z.2.category == 1) = true) (kk : bz_G l E M R L0 z0 Fn sz k n L g q ((i, .ref x) :: lv) st) : bz_G l E M R L0 z0 Fn sz k n L g pc lv (.ref x :: st) := by
  subst hq
  intro p e s m args below meth c H locs ls C hz hP hD hS hl
  exact lv_astore C.1 C.2.1 hd hl.lv hn rfl (fun ls1 h1 => kk p e s m args below meth c H locs ls1 C hz hP hD hS (bz_has.put hc h1))
theorem g_fstore_n {j : Fin 4} {i : Nat} {x : UInt32} (hi : (j : Nat) = i) (hd : decode M.2.1 pc = .ok (.fstore_n j, 1)) (hq : pc + 1 = q) (hn : i < M.2.2.1) (hc : lv.all (fun z => z.2.category == 1) = true) (kk : bz_G l E M R L0 z0 Fn sz k n L g q ((i, .float x) :: lv) st) : bz_G l E M R L0 z0 Fn sz k n L g pc lv (.float x :: st) := by
  subst hq
  intro p e s m args below meth c H locs ls C hz hP hD hS hl
  exact lv_fstore_n C.1 C.2.1 hd hi hl.lv hn rfl (fun ls1 h1 => kk p e s m args below meth c H locs ls1 C hz hP hD hS (bz_has.put hc h1))
theorem g_fstore {i : Nat} {x : UInt32} (hd : decode M.2.1 pc = .ok (.fstore i, 2)) (hq : pc + 2 = q) (hn : i < M.2.2.1) (hc : lv.all (fun z => z.2.category == 1) = true) (kk : bz_G l E M R L0 z0 Fn sz k n L g q ((i, .float x) :: lv) st) : bz_G l E M R L0 z0 Fn sz k n L g pc lv (.float x :: st) := by
  subst hq
  intro p e s m args below meth c H locs ls C hz hP hD hS hl
  exact lv_fstore C.1 C.2.1 hd hl.lv hn rfl (fun ls1 h1 => kk p e s m args below meth c H locs ls1 C hz hP hD hS (bz_has.put hc h1))
theorem g_iinc {i : Nat} {z : Int} {x v : Int32} (hd : decode M.2.1 pc = .ok (.iinc i z, 3)) (hq : pc + 3 = q) (hn : i < M.2.2.1) (hc : lv.all (fun z => z.2.category == 1) = true) (hx : lv.lookup i = some (.int x)) (hv : x + Int32.ofInt z = v) (kk : bz_G l E M R L0 z0 Fn sz k n L g q ((i, .int v) :: lv) st) : bz_G l E M R L0 z0 Fn sz k n L g pc lv st := by
  subst hq
  intro p e s m args below meth c H locs ls C hz hP hD hS hl
  obtain ⟨j, hj⟩ := List.getElem?_of_mem (bz_look hx)
  exact lv_iinc C.1 C.2.1 hd hl.lv hj hv hn rfl (fun ls1 h1 => kk p e s m args below meth c H locs ls1 C hz hP hD hS (bz_has.put hc h1))
theorem g_iadd {x y : Int32} (hd : decode M.2.1 pc = .ok (.iadd, 1)) (hq : pc + 1 = q) (kk : bz_G l E M R L0 z0 Fn sz k n L g q lv (.int (x + y) :: st)) : bz_G l E M R L0 z0 Fn sz k n L g pc lv (.int y :: .int x :: st) := by
  subst hq
  intro p e s m args below meth c H locs ls C hz hP hD hS hl
  exact lv_iadd C.1 C.2.1 hd (kk p e s m args below meth c H locs ls C hz hP hD hS hl)
theorem g_isub {x y : Int32} (hd : decode M.2.1 pc = .ok (.isub, 1)) (hq : pc + 1 = q) (kk : bz_G l E M R L0 z0 Fn sz k n L g q lv (.int (x - y) :: st)) : bz_G l E M R L0 z0 Fn sz k n L g pc lv (.int y :: .int x :: st) := by
  subst hq
  intro p e s m args below meth c H locs ls C hz hP hD hS hl
  exact lv_isub C.1 C.2.1 hd (kk p e s m args below meth c H locs ls C hz hP hD hS hl)
theorem g_imul {x y : Int32} (hd : decode M.2.1 pc = .ok (.imul, 1)) (hq : pc + 1 = q) (kk : bz_G l E M R L0 z0 Fn sz k n L g q lv (.int (x * y) :: st)) : bz_G l E M R L0 z0 Fn sz k n L g pc lv (.int y :: .int x :: st) := by
  subst hq
  intro p e s m args below meth c H locs ls C hz hP hD hS hl
  exact lv_imul C.1 C.2.1 hd (kk p e s m args below meth c H locs ls C hz hP hD hS hl)
theorem g_iand {x y : Int32} (hd : decode M.2.1 pc = .ok (.iand, 1)) (hq : pc + 1 = q) (kk : bz_G l E M R L0 z0 Fn sz k n L g q lv (.int (x &&& y) :: st)) : bz_G l E M R L0 z0 Fn sz k n L g pc lv (.int y :: .int x :: st) := by
  subst hq
  intro p e s m args below meth c H locs ls C hz hP hD hS hl
  exact lv_iand C.1 C.2.1 hd (kk p e s m args below meth c H locs ls C hz hP hD hS hl)
theorem g_ior {x y : Int32} (hd : decode M.2.1 pc = .ok (.ior, 1)) (hq : pc + 1 = q) (kk : bz_G l E M R L0 z0 Fn sz k n L g q lv (.int (x ||| y) :: st)) : bz_G l E M R L0 z0 Fn sz k n L g pc lv (.int y :: .int x :: st) := by
  subst hq
  intro p e s m args below meth c H locs ls C hz hP hD hS hl
  exact lv_ior C.1 C.2.1 hd (kk p e s m args below meth c H locs ls C hz hP hD hS hl)
theorem g_ishl {x y : Int32} (hd : decode M.2.1 pc = .ok (.ishl, 1)) (hq : pc + 1 = q) (kk : bz_G l E M R L0 z0 Fn sz k n L g q lv (.int (x <<< (y &&& 31)) :: st)) : bz_G l E M R L0 z0 Fn sz k n L g pc lv (.int y :: .int x :: st) := by
  subst hq
  intro p e s m args below meth c H locs ls C hz hP hD hS hl
  exact lv_ishl C.1 C.2.1 hd (kk p e s m args below meth c H locs ls C hz hP hD hS hl)
theorem g_ishr {x y : Int32} (hd : decode M.2.1 pc = .ok (.ishr, 1)) (hq : pc + 1 = q) (kk : bz_G l E M R L0 z0 Fn sz k n L g q lv (.int (x >>> (y &&& 31)) :: st)) : bz_G l E M R L0 z0 Fn sz k n L g pc lv (.int y :: .int x :: st) := by
  subst hq
  intro p e s m args below meth c H locs ls C hz hP hD hS hl
  exact lv_ishr C.1 C.2.1 hd (kk p e s m args below meth c H locs ls C hz hP hD hS hl)
theorem g_iushr {x y v : Int32} (hd : decode M.2.1 pc = .ok (.iushr, 1)) (hq : pc + 1 = q) (hv : (x.toUInt32 >>> (y.toUInt32 &&& Int32.toUInt32 31)).toInt32 = v) (kk : bz_G l E M R L0 z0 Fn sz k n L g q lv (.int v :: st)) : bz_G l E M R L0 z0 Fn sz k n L g pc lv (.int y :: .int x :: st) := by
  subst hq
  intro p e s m args below meth c H locs ls C hz hP hD hS hl
  exact lv_iushr C.1 C.2.1 hd hv (kk p e s m args below meth c H locs ls C hz hP hD hS hl)
theorem g_idiv {x y : Int32} (hd : decode M.2.1 pc = .ok (.idiv, 1)) (hq : pc + 1 = q) (hne : ¬ y = 0) (kk : bz_G l E M R L0 z0 Fn sz k n L g q lv (.int (x / y) :: st)) : bz_G l E M R L0 z0 Fn sz k n L g pc lv (.int y :: .int x :: st) := by
  subst hq
  intro p e s m args below meth c H locs ls C hz hP hD hS hl
  exact lv_idiv C.1 C.2.1 hd hne (kk p e s m args below meth c H locs ls C hz hP hD hS hl)
theorem g_irem {x y : Int32} (hd : decode M.2.1 pc = .ok (.irem, 1)) (hq : pc + 1 = q) (hne : ¬ y = 0) (kk : bz_G l E M R L0 z0 Fn sz k n L g q lv (.int (x - x / y * y) :: st)) : bz_G l E M R L0 z0 Fn sz k n L g pc lv (.int y :: .int x :: st) := by
  subst hq
  intro p e s m args below meth c H locs ls C hz hP hD hS hl
  exact lv_irem C.1 C.2.1 hd hne (kk p e s m args below meth c H locs ls C hz hP hD hS hl)
theorem g_ineg {x : Int32} (hd : decode M.2.1 pc = .ok (.ineg, 1)) (hq : pc + 1 = q) (kk : bz_G l E M R L0 z0 Fn sz k n L g q lv (.int (-x) :: st)) : bz_G l E M R L0 z0 Fn sz k n L g pc lv (.int x :: st) := by
  subst hq
  intro p e s m args below meth c H locs ls C hz hP hD hS hl
  exact lv_ineg C.1 C.2.1 hd (kk p e s m args below meth c H locs ls C hz hP hD hS hl)
theorem g_i2l {x : Int32} (hd : decode M.2.1 pc = .ok (.i2l, 1)) (hq : pc + 1 = q) (kk : bz_G l E M R L0 z0 Fn sz k n L g q lv (.long x.toInt64 :: st)) : bz_G l E M R L0 z0 Fn sz k n L g pc lv (.int x :: st) := by
  subst hq
  intro p e s m args below meth c H locs ls C hz hP hD hS hl
  exact lv_i2l C.1 C.2.1 hd rfl (kk p e s m args below meth c H locs ls C hz hP hD hS hl)
theorem g_i2b {x : Int32} (hd : decode M.2.1 pc = .ok (.i2b, 1)) (hq : pc + 1 = q) (kk : bz_G l E M R L0 z0 Fn sz k n L g q lv (.int x.toInt8.toInt32 :: st)) : bz_G l E M R L0 z0 Fn sz k n L g pc lv (.int x :: st) := by
  subst hq
  intro p e s m args below meth c H locs ls C hz hP hD hS hl
  exact lv_i2b C.1 C.2.1 hd rfl (kk p e s m args below meth c H locs ls C hz hP hD hS hl)
theorem g_dup {v : Value} (hd : decode M.2.1 pc = .ok (.dup, 1)) (hq : pc + 1 = q) (hv : v.category = 1) (kk : bz_G l E M R L0 z0 Fn sz k n L g q lv (v :: v :: st)) : bz_G l E M R L0 z0 Fn sz k n L g pc lv (v :: st) := by
  subst hq
  intro p e s m args below meth c H locs ls C hz hP hD hS hl
  exact lv_dup C.1 C.2.1 hd hv (kk p e s m args below meth c H locs ls C hz hP hD hS hl)
theorem g_pop {v : Value} (hd : decode M.2.1 pc = .ok (.pop, 1)) (hq : pc + 1 = q) (hv : v.category = 1) (kk : bz_G l E M R L0 z0 Fn sz k n L g q lv (st)) : bz_G l E M R L0 z0 Fn sz k n L g pc lv (v :: st) := by
  subst hq
  intro p e s m args below meth c H locs ls C hz hP hD hS hl
  exact lv_pop C.1 C.2.1 hd hv (kk p e s m args below meth c H locs ls C hz hP hD hS hl)
theorem g_dup2 {v u : Value} (hd : decode M.2.1 pc = .ok (.dup2, 1)) (hq : pc + 1 = q) (hv : v.category = 1) (hu : u.category = 1) (kk : bz_G l E M R L0 z0 Fn sz k n L g q lv (v :: u :: v :: u :: st)) : bz_G l E M R L0 z0 Fn sz k n L g pc lv (v :: u :: st) := by
  subst hq
  intro p e s m args below meth c H locs ls C hz hP hD hS hl
  exact lv_dup2_11 C.1 C.2.1 hd hv hu (kk p e s m args below meth c H locs ls C hz hP hD hS hl)
theorem g_goto {o : Int} (hd : decode M.2.1 pc = .ok (.goto o, 3)) (ht : (pc : Int) + o = (q : Int)) (kk : bz_G l E M R L0 z0 Fn sz k n L g q lv st) : bz_G l E M R L0 z0 Fn sz k n L g pc lv st := by
  intro p e s m args below meth c H locs ls C hz hP hD hS hl
  exact lv_goto C.1 C.2.1 hd ht (kk p e s m args below meth c H locs ls C hz hP hD hS hl)
theorem g_if_eq {t : Nat} {o : Int} {x : Int32} (hd : decode M.2.1 pc = .ok (.ifCond .eq o, 3)) (hq : pc + 3 = q) (ht : (pc : Int) + o = (t : Int)) (k1 : x = 0 → bz_G l E M R L0 z0 Fn sz k n L g t lv st) (k2 : ¬ x = 0 → bz_G l E M R L0 z0 Fn sz k n L g q lv st) : bz_G l E M R L0 z0 Fn sz k n L g pc lv (.int x :: st) := by
  subst hq
  intro p e s m args below meth c H locs ls C hz hP hD hS hl
  exact lv_if_eq C.1 C.2.1 hd ht (fun h => k1 h p e s m args below meth c H locs ls C hz hP hD hS hl) (fun h => k2 h p e s m args below meth c H locs ls C hz hP hD hS hl)
theorem g_icmp_eq {t : Nat} {o : Int} {x y : Int32} (hd : decode M.2.1 pc = .ok (.if_icmp .eq o, 3)) (hq : pc + 3 = q) (ht : (pc : Int) + o = (t : Int)) (k1 : x = y → bz_G l E M R L0 z0 Fn sz k n L g t lv st) (k2 : ¬ x = y → bz_G l E M R L0 z0 Fn sz k n L g q lv st) : bz_G l E M R L0 z0 Fn sz k n L g pc lv (.int y :: .int x :: st) := by
  subst hq
  intro p e s m args below meth c H locs ls C hz hP hD hS hl
  exact lv_icmp_eq C.1 C.2.1 hd ht (fun h => k1 h p e s m args below meth c H locs ls C hz hP hD hS hl) (fun h => k2 h p e s m args below meth c H locs ls C hz hP hD hS hl)
theorem g_if_ne {t : Nat} {o : Int} {x : Int32} (hd : decode M.2.1 pc = .ok (.ifCond .ne o, 3)) (hq : pc + 3 = q) (ht : (pc : Int) + o = (t : Int)) (k1 : x ≠ 0 → bz_G l E M R L0 z0 Fn sz k n L g t lv st) (k2 : x = 0 → bz_G l E M R L0 z0 Fn sz k n L g q lv st) : bz_G l E M R L0 z0 Fn sz k n L g pc lv (.int x :: st) := by
  subst hq
  intro p e s m args below meth c H locs ls C hz hP hD hS hl
  exact lv_if_ne C.1 C.2.1 hd ht (fun h => k1 h p e s m args below meth c H locs ls C hz hP hD hS hl) (fun h => k2 h p e s m args below meth c H locs ls C hz hP hD hS hl)
theorem g_icmp_ne {t : Nat} {o : Int} {x y : Int32} (hd : decode M.2.1 pc = .ok (.if_icmp .ne o, 3)) (hq : pc + 3 = q) (ht : (pc : Int) + o = (t : Int)) (k1 : x ≠ y → bz_G l E M R L0 z0 Fn sz k n L g t lv st) (k2 : x = y → bz_G l E M R L0 z0 Fn sz k n L g q lv st) : bz_G l E M R L0 z0 Fn sz k n L g pc lv (.int y :: .int x :: st) := by
  subst hq
  intro p e s m args below meth c H locs ls C hz hP hD hS hl
  exact lv_icmp_ne C.1 C.2.1 hd ht (fun h => k1 h p e s m args below meth c H locs ls C hz hP hD hS hl) (fun h => k2 h p e s m args below meth c H locs ls C hz hP hD hS hl)
theorem g_if_lt {t : Nat} {o : Int} {x : Int32} (hd : decode M.2.1 pc = .ok (.ifCond .lt o, 3)) (hq : pc + 3 = q) (ht : (pc : Int) + o = (t : Int)) (k1 : x < 0 → bz_G l E M R L0 z0 Fn sz k n L g t lv st) (k2 : ¬ x < 0 → bz_G l E M R L0 z0 Fn sz k n L g q lv st) : bz_G l E M R L0 z0 Fn sz k n L g pc lv (.int x :: st) := by
  subst hq
  intro p e s m args below meth c H locs ls C hz hP hD hS hl
  exact lv_if_lt C.1 C.2.1 hd ht (fun h => k1 h p e s m args below meth c H locs ls C hz hP hD hS hl) (fun h => k2 h p e s m args below meth c H locs ls C hz hP hD hS hl)
theorem g_icmp_lt {t : Nat} {o : Int} {x y : Int32} (hd : decode M.2.1 pc = .ok (.if_icmp .lt o, 3)) (hq : pc + 3 = q) (ht : (pc : Int) + o = (t : Int)) (k1 : x < y → bz_G l E M R L0 z0 Fn sz k n L g t lv st) (k2 : ¬ x < y → bz_G l E M R L0 z0 Fn sz k n L g q lv st) : bz_G l E M R L0 z0 Fn sz k n L g pc lv (.int y :: .int x :: st) := by
  subst hq
  intro p e s m args below meth c H locs ls C hz hP hD hS hl
  exact lv_icmp_lt C.1 C.2.1 hd ht (fun h => k1 h p e s m args below meth c H locs ls C hz hP hD hS hl) (fun h => k2 h p e s m args below meth c H locs ls C hz hP hD hS hl)
theorem g_if_ge {t : Nat} {o : Int} {x : Int32} (hd : decode M.2.1 pc = .ok (.ifCond .ge o, 3)) (hq : pc + 3 = q) (ht : (pc : Int) + o = (t : Int)) (k1 : 0 ≤ x → bz_G l E M R L0 z0 Fn sz k n L g t lv st) (k2 : ¬ 0 ≤ x → bz_G l E M R L0 z0 Fn sz k n L g q lv st) : bz_G l E M R L0 z0 Fn sz k n L g pc lv (.int x :: st) := by
  subst hq
  intro p e s m args below meth c H locs ls C hz hP hD hS hl
  exact lv_if_ge C.1 C.2.1 hd ht (fun h => k1 h p e s m args below meth c H locs ls C hz hP hD hS hl) (fun h => k2 h p e s m args below meth c H locs ls C hz hP hD hS hl)
theorem g_icmp_ge {t : Nat} {o : Int} {x y : Int32} (hd : decode M.2.1 pc = .ok (.if_icmp .ge o, 3)) (hq : pc + 3 = q) (ht : (pc : Int) + o = (t : Int)) (k1 : y ≤ x → bz_G l E M R L0 z0 Fn sz k n L g t lv st) (k2 : ¬ y ≤ x → bz_G l E M R L0 z0 Fn sz k n L g q lv st) : bz_G l E M R L0 z0 Fn sz k n L g pc lv (.int y :: .int x :: st) := by
  subst hq
  intro p e s m args below meth c H locs ls C hz hP hD hS hl
  exact lv_icmp_ge C.1 C.2.1 hd ht (fun h => k1 h p e s m args below meth c H locs ls C hz hP hD hS hl) (fun h => k2 h p e s m args below meth c H locs ls C hz hP hD hS hl)
theorem g_if_gt {t : Nat} {o : Int} {x : Int32} (hd : decode M.2.1 pc = .ok (.ifCond .gt o, 3)) (hq : pc + 3 = q) (ht : (pc : Int) + o = (t : Int)) (k1 : 0 < x → bz_G l E M R L0 z0 Fn sz k n L g t lv st) (k2 : ¬ 0 < x → bz_G l E M R L0 z0 Fn sz k n L g q lv st) : bz_G l E M R L0 z0 Fn sz k n L g pc lv (.int x :: st) := by
  subst hq
  intro p e s m args below meth c H locs ls C hz hP hD hS hl
  exact lv_if_gt C.1 C.2.1 hd ht (fun h => k1 h p e s m args below meth c H locs ls C hz hP hD hS hl) (fun h => k2 h p e s m args below meth c H locs ls C hz hP hD hS hl)
theorem g_icmp_gt {t : Nat} {o : Int} {x y : Int32} (hd : decode M.2.1 pc = .ok (.if_icmp .gt o, 3)) (hq : pc + 3 = q) (ht : (pc : Int) + o = (t : Int)) (k1 : y < x → bz_G l E M R L0 z0 Fn sz k n L g t lv st) (k2 : ¬ y < x → bz_G l E M R L0 z0 Fn sz k n L g q lv st) : bz_G l E M R L0 z0 Fn sz k n L g pc lv (.int y :: .int x :: st) := by
  subst hq
  intro p e s m args below meth c H locs ls C hz hP hD hS hl
  exact lv_icmp_gt C.1 C.2.1 hd ht (fun h => k1 h p e s m args below meth c H locs ls C hz hP hD hS hl) (fun h => k2 h p e s m args below meth c H locs ls C hz hP hD hS hl)
theorem g_if_le {t : Nat} {o : Int} {x : Int32} (hd : decode M.2.1 pc = .ok (.ifCond .le o, 3)) (hq : pc + 3 = q) (ht : (pc : Int) + o = (t : Int)) (k1 : x ≤ 0 → bz_G l E M R L0 z0 Fn sz k n L g t lv st) (k2 : ¬ x ≤ 0 → bz_G l E M R L0 z0 Fn sz k n L g q lv st) : bz_G l E M R L0 z0 Fn sz k n L g pc lv (.int x :: st) := by
  subst hq
  intro p e s m args below meth c H locs ls C hz hP hD hS hl
  exact lv_if_le C.1 C.2.1 hd ht (fun h => k1 h p e s m args below meth c H locs ls C hz hP hD hS hl) (fun h => k2 h p e s m args below meth c H locs ls C hz hP hD hS hl)
theorem g_icmp_le {t : Nat} {o : Int} {x y : Int32} (hd : decode M.2.1 pc = .ok (.if_icmp .le o, 3)) (hq : pc + 3 = q) (ht : (pc : Int) + o = (t : Int)) (k1 : x ≤ y → bz_G l E M R L0 z0 Fn sz k n L g t lv st) (k2 : ¬ x ≤ y → bz_G l E M R L0 z0 Fn sz k n L g q lv st) : bz_G l E M R L0 z0 Fn sz k n L g pc lv (.int y :: .int x :: st) := by
  subst hq
  intro p e s m args below meth c H locs ls C hz hP hD hS hl
  exact lv_icmp_le C.1 C.2.1 hd ht (fun h => k1 h p e s m args below meth c H locs ls C hz hP hD hS hl) (fun h => k2 h p e s m args below meth c H locs ls C hz hP hD hS hl)
/-- fewer locals -/
theorem g_lv {lv1 : List (Nat × Value)} (h : ∀ (i : Nat) (v : Value), lv1.lookup i = some v → lv.lookup i = some v) (kk : bz_G l E M R L0 z0 Fn sz k n L g pc lv1 st) : bz_G l E M R L0 z0 Fn sz k n L g pc lv st := by
  intro p e s m args below meth c H locs ls C hz hP hD hS hl
  exact kk p e s m args below meth c H locs ls C hz hP hD hS ⟨hl.1, hl.2.1, fun i v hv => hl.2.2 i v (h i v hv)⟩
theorem g_topi {x : Int32} (kk : ∀ y : Int32, y = x → bz_G l E M R L0 z0 Fn sz k n L g pc lv (.int y :: st)) : bz_G l E M R L0 z0 Fn sz k n L g pc lv (.int x :: st) := kk x rfl

/-- a field of a class of the world: the link, its class, its slot -/
def bz_fl (own : String) (idx ci j : Nat) : Prop := ∃ r : vw_C, bz_Cl[ci]? = some r ∧ j < r.2.2 ∧ Cond.fieldLink own idx (r.2.1 j).1 (r.2.1 j).2.1 (r.2.1 j).2.2.1 ∈ bz_tbl ∧ ∀ w ∈ u_ws r.1 r.2.1 r.2.2, w ∈ bz_tbl
def bz_fp (own : String) (idx ci j : Nat) (fin : Bool) (ty : FieldType) : Prop := ∃ (r : vw_C) (ty0 : Nat → FieldType), bz_Cl[ci]? = some r ∧ j < r.2.2 ∧ Cond.fieldLink own idx (r.2.1 j).1 (r.2.1 j).2.1 (r.2.1 j).2.2.1 ∈ bz_tbl ∧ (∀ w ∈ u_ws r.1 r.2.1 r.2.2, w ∈ bz_tbl) ∧ (∀ k, k < r.2.2 → parseFieldDescriptor (r.2.1 k).2.2.1 = some (ty0 k)) ∧ (∀ a, a < r.2.2 → ∀ b, b < r.2.2 → a ≠ b → (r.2.1 a).2.1 ≠ (r.2.1 b).2.1) ∧ (r.2.1 j).2.2.2 = fin ∧ ty0 j = ty ∧ (fin = true → (r.2.1 j).1 = own)
theorem g_getf {idx ci j a : Nat} {fs : List Value} {v : Value} (hd : decode M.2.1 pc = .ok (.getfield idx, 3)) (hq : pc + 3 = q) (hf : bz_fl M.1.cls idx ci j) (hL : a ∈ L) (hg : g a = .inr (ci, fs)) (hv : fs[j]? = some v) (kk : bz_G l E M R L0 z0 Fn sz k n L g q lv (v :: st)) : bz_G l E M R L0 z0 Fn sz k n L g pc lv (.ref a :: st) := by
  subst hq
  intro p e s m args below meth c H locs ls C hz hP hD hS hl
  obtain ⟨r, h1, h2, h3, h4⟩ := hf
  obtain ⟨i, hi⟩ := bz_at hL hg
  exact va_get C.1 C.2.1 C.2.2.2.2.2.1 h4 C.2.2.2.2.1 C.2.2.2.2.2.2.1 hP i hi h1 j h2 (C.2.2.2.2.2.1 _ h3) (fun _ h => h) hv hd (kk p e s m args below meth c H locs ls C hz hP hD hS hl)
theorem g_putf {idx ci j a : Nat} {ty : FieldType} {fs : List Value} {v : Value} (hd : decode M.2.1 pc = .ok (.putfield idx, 3)) (hq : pc + 3 = q) (hf : bz_fp M.1.cls idx ci j false ty) (hL : a ∈ L) (hg : g a = .inr (ci, fs)) (hl0 : j < fs.length) (hn : narrow ty v = v) (hfit : fits ty v = true) (kk : bz_G l E M R L0 z0 Fn sz k n L  (va_up g a (.inr (ci, fs.set j v))) q lv st) : bz_G l E M R L0 z0 Fn sz k n L g pc lv (v :: .ref a :: st) := by
  subst hq
  intro p e s m args below meth c H locs ls C hz hP hD hS hl
  obtain ⟨r, ty0, hc, h2, h3, h4, h5, h6, h7, h8, -⟩ := hf
  obtain ⟨i, hi⟩ := bz_at hL hg
  have hap := va_apart (own := M.1.cls) C.2.2.2.2.2.1 h4 ty0 h5 h6 C.2.2.2.2.2.2.1 hc
  obtain ⟨r2, hr2, cell, q1, q2, q3, q4⟩ := hP i _ hi
  have hr : r2 = r := Option.some.inj (hr2.symm.trans hc)
  subst hr
  obtain ⟨hSl, hfc, kC, hkC, hkind⟩ := C.2.2.2.2.2.2.1.1 ci _ hc
  obtain ⟨cf, kf, fi, f, hfi, hsl⟩ := hSl j h2
  have hlay := C.2.2.2.2.2.1 _ (h4 _ (u_in_lay h2))
  unfold u_lay at hlay
  rw [if_neg (by rw [h7]; decide)] at hlay
  have hst := (u_facts hfc hkC (u_lays C.2.2.2.2.2.1 h4 h2) hfi).1
  have h9 := u_store hfc hkC hkind hlay hfi (h5 j h2) (by rw [h8]; exact hn) (by rw [h8]; exact hfit)
  refine W.putK C.1 C.2.1 (f := f) ⟨C.2.2.2.2.1, C.2.2.2.2.2.1 _ h3, ⟨_, _, _, hfi⟩, hst⟩ (by rw [q2]; exact h9) q1 q3 (by rw [hsl]; exact k2_hasslot (q4 j h2)) rfl rfl hd fun H1 e1 z1 o1 => ?_
  rw [hsl] at e1 ⊢
  have he : va_at E.1 bz_Cl (a, .inr (ci, fs.set j v)) H1 := ⟨_, hc, t_OB.to (V := updV (vp_V fs) j v) ⟨_, e1, q2, q3, t_set q4 hap h2 v⟩ (fun x _ => vp_updV_set hl0 v x)⟩
  obtain ⟨hP1, hD1⟩ := bz_kk hP hD hL hg hi he o1
  exact kk p e s m args below meth c H1 _ ls C (z1.trans hz) hP1 hD1 (hS.put z1 o1 (hD.2 i _ hi)) hl
theorem g_putF {idx ci j a : Nat} {ty : FieldType} {fs : List Value} {v : Value} (hd : decode M.2.1 pc = .ok (.putfield idx, 3)) (hq : pc + 3 = q) (hf : bz_fp M.1.cls idx ci j true ty) (hname : M.1.name = "<init>") (hL : a ∈ L) (hg : g a = .inr (ci, fs)) (hl0 : j < fs.length) (hn : narrow ty v = v) (hfit : fits ty v = true) (kk : bz_G l E M R L0 z0 Fn sz k n L  (va_up g a (.inr (ci, fs.set j v))) q lv st) : bz_G l E M R L0 z0 Fn sz k n L g pc lv (v :: .ref a :: st) := by
  subst hq
  intro p e s m args below meth c H locs ls C hz hP hD hS hl
  obtain ⟨r, ty0, hc, h2, h3, h4, h5, h6, h7, h8, hdecl⟩ := hf
  have hdecl := hdecl rfl
  obtain ⟨i, hi⟩ := bz_at hL hg
  have hap := va_apart (own := M.1.cls) C.2.2.2.2.2.1 h4 ty0 h5 h6 C.2.2.2.2.2.2.1 hc
  obtain ⟨r2, hr2, cell, q1, q2, q3, q4⟩ := hP i _ hi
  have hr : r2 = r := Option.some.inj (hr2.symm.trans hc)
  subst hr
  obtain ⟨hSl, hfc, kC, hkC, hkind⟩ := C.2.2.2.2.2.2.1.1 ci _ hc
  obtain ⟨cf, kf, fi, f, hfi, hsl⟩ := hSl j h2
  have hlay := C.2.2.2.2.2.1 _ (h4 _ (u_in_lay h2))
  unfold u_lay at hlay
  rw [if_pos h7] at hlay
  have hst := (u_facts hfc hkC (u_lays C.2.2.2.2.2.1 h4 h2) hfi).1
  have hcf : m.cls = cf := by
    obtain ⟨_, _, c', _, _, _, -, -, hf', -, -, -, hown2, -⟩ := Cond.laysFinal_spec hlay
    have e1 : c' = cf := by have := hfi.symm.trans hf'; simp at this; exact this.1.symm
    rw [hdecl] at hown2
    rw [← e1]; exact Option.some.inj (C.2.2.2.2.1.symm.trans hown2)
  have h9 := u_fits hfc hkC hkind (Or.inr hlay) hfi (h5 j h2) (by rw [h8]; exact hn) (by rw [h8]; exact hfit)
  refine W.putFinK C.1 C.2.1 C.2.2.2.2.1 (C.2.2.2.2.2.1 _ h3) hfi hst hcf (C.2.2.2.2.2.2.2.2.1.trans hname) (by rw [q2]; exact h9) q1 q3 (by rw [hsl]; exact k2_hasslot (q4 j h2)) rfl rfl hd fun H1 e1 z1 o1 => ?_
  rw [hsl] at e1 ⊢
  have he : va_at E.1 bz_Cl (a, .inr (ci, fs.set j v)) H1 := ⟨_, hc, t_OB.to (V := updV (vp_V fs) j v) ⟨_, e1, q2, q3, t_set q4 hap h2 v⟩ (fun x _ => vp_updV_set hl0 v x)⟩
  obtain ⟨hP1, hD1⟩ := bz_kk hP hD hL hg hi he o1
  exact kk p e s m args below meth c H1 _ ls C (z1.trans hz) hP1 hD1 (hS.put z1 o1 (hD.2 i _ hi)) hl

theorem g_iald {a N : Nat} {f : Nat → Int32} {i : Int32} (hd : decode M.2.1 pc = .ok (.iaload, 1)) (hq : pc + 1 = q) (hL : a ∈ L) (hg : g a = .inl (E.1.1 21, N, .inl f)) (hin : vp_in i N) (kk : bz_G l E M R L0 z0 Fn sz k n L g q lv (.int (f i.toNatClampNeg) :: st)) : bz_G l E M R L0 z0 Fn sz k n L g pc lv (.int i :: .ref a :: st) := by
  subst hq
  intro p e s m args below meth c H locs ls C hz hP hD hS hl
  obtain ⟨j, hj⟩ := bz_at hL hg
  exact va_iald C.1 C.2.1 C.2.2.2.2.2.2.1 hP j 1 hj rfl hin hd (kk p e s m args below meth c H locs ls C hz hP hD hS hl)
theorem g_bald {a N : Nat} {f : Nat → Int32} {i : Int32} (hd : decode M.2.1 pc = .ok (.baload, 1)) (hq : pc + 1 = q) (hL : a ∈ L) (hg : g a = .inl (E.1.1 20, N, .inl f)) (hin : vp_in i N) (kk : bz_G l E M R L0 z0 Fn sz k n L g q lv (.int (f i.toNatClampNeg) :: st)) : bz_G l E M R L0 z0 Fn sz k n L g pc lv (.int i :: .ref a :: st) := by
  subst hq
  intro p e s m args below meth c H locs ls C hz hP hD hS hl
  obtain ⟨j, hj⟩ := bz_at hL hg
  exact va_bald C.1 C.2.1 C.2.2.2.2.2.2.1 hP j 0 hj rfl hin hd (kk p e s m args below meth c H locs ls C hz hP hD hS hl)
theorem g_zald {a N : Nat} {f : Nat → Int32} {i : Int32} (hd : decode M.2.1 pc = .ok (.baload, 1)) (hq : pc + 1 = q) (hL : a ∈ L) (hg : g a = .inl (E.1.1 22, N, .inl f)) (hin : vp_in i N) (kk : bz_G l E M R L0 z0 Fn sz k n L g q lv (.int (f i.toNatClampNeg) :: st)) : bz_G l E M R L0 z0 Fn sz k n L g pc lv (.int i :: .ref a :: st) := by
  subst hq
  intro p e s m args below meth c H locs ls C hz hP hD hS hl
  obtain ⟨j, hj⟩ := bz_at hL hg
  exact va_zald C.1 C.2.1 C.2.2.2.2.2.2.1 hP j 2 hj rfl hin hd (kk p e s m args below meth c H locs ls C hz hP hD hS hl)
theorem g_lald {a N : Nat} {f : Nat → Int64} {i : Int32} (hd : decode M.2.1 pc = .ok (.laload, 1)) (hq : pc + 1 = q) (hL : a ∈ L) (hg : g a = .inl (E.1.1 24, N, .inr (.inl f))) (hin : vp_in i N) (kk : bz_G l E M R L0 z0 Fn sz k n L g q lv (.long (f i.toNatClampNeg) :: st)) : bz_G l E M R L0 z0 Fn sz k n L g pc lv (.int i :: .ref a :: st) := by
  subst hq
  intro p e s m args below meth c H locs ls C hz hP hD hS hl
  obtain ⟨j, hj⟩ := bz_at hL hg
  exact va_lald C.1 C.2.1 C.2.2.2.2.2.2.1 hP j 4 hj rfl hin hd (kk p e s m args below meth c H locs ls C hz hP hD hS hl)
theorem g_dald {a N : Nat} {f : Nat → UInt64} {i : Int32} (hd : decode M.2.1 pc = .ok (.daload, 1)) (hq : pc + 1 = q) (hL : a ∈ L) (hg : g a = .inl (E.1.1 25, N, .inr (.inr (.inr (.inl f))))) (hin : vp_in i N) (kk : bz_G l E M R L0 z0 Fn sz k n L g q lv (.double (f i.toNatClampNeg) :: st)) : bz_G l E M R L0 z0 Fn sz k n L g pc lv (.int i :: .ref a :: st) := by
  subst hq
  intro p e s m args below meth c H locs ls C hz hP hD hS hl
  obtain ⟨j, hj⟩ := bz_at hL hg
  exact va_dald C.1 C.2.1 C.2.2.2.2.2.2.1 hP j 5 hj rfl hin hd (kk p e s m args below meth c H locs ls C hz hP hD hS hl)
theorem g_aald {a N : Nat} {f : Nat → Option Nat} {i : Int32} (hd : decode M.2.1 pc = .ok (.aaload, 1)) (hq : pc + 1 = q) (hL : a ∈ L) (hg : g a = .inl (E.1.1 23, N, .inr (.inr (.inr (.inr f))))) (hin : vp_in i N) (kk : bz_G l E M R L0 z0 Fn sz k n L g q lv (va_rf (f i.toNatClampNeg) :: st)) : bz_G l E M R L0 z0 Fn sz k n L g pc lv (.int i :: .ref a :: st) := by
  subst hq
  intro p e s m args below meth c H locs ls C hz hP hD hS hl
  obtain ⟨j, hj⟩ := bz_at hL hg
  exact va_aldq C.1 C.2.1 C.2.2.2.2.2.2.1 hP j 3 hj rfl hin hd (kk p e s m args below meth c H locs ls C hz hP hD hS hl)
theorem g_alen {a t0 : Nat} {x : vp_A} {ty : FieldType} {cA : ClassId} {v : Int32} (hd : decode M.2.1 pc = .ok (.arraylength, 1)) (hq : pc + 1 = q) (hL : a ∈ L) (hg : g a = .inl (cA, x)) (ht : (bz_tys E)[t0]? = some (cA, ty)) (hv : Int32.ofNat x.1 = v) (kk : bz_G l E M R L0 z0 Fn sz k n L g q lv (.int v :: st)) : bz_G l E M R L0 z0 Fn sz k n L g pc lv (.ref a :: st) := by
  subst hq
  intro p e s m args below meth c H locs ls C hz hP hD hS hl
  obtain ⟨j, hj⟩ := bz_at hL hg
  exact va_alen C.1 C.2.1 C.2.2.2.2.2.2.1 hP j t0 hj ht hv hd (kk p e s m args below meth c H locs ls C hz hP hD hS hl)
theorem g_iast {a N : Nat} {f : Nat → Int32} {i : Int32} {x : Int32} (hd : decode M.2.1 pc = .ok (.iastore, 1)) (hq : pc + 1 = q) (hL : a ∈ L) (hg : g a = .inl (E.1.1 21, N, .inl f)) (hin : vp_in i N) (kk : bz_G l E M R L0 z0 Fn sz k n L  (va_up g a (.inl (E.1.1 21, N, .inl (upd f i.toNatClampNeg x)))) q lv st) : bz_G l E M R L0 z0 Fn sz k n L g pc lv (.int x :: .int i :: .ref a :: st) := by
  subst hq
  intro p e s m args below meth c H locs ls C hz hP hD hS hl
  obtain ⟨j, hj⟩ := bz_at hL hg
  refine W.iast C.1 C.2.1 (hP j _ hj) ((C.2.2.2.2.2.2.1.2 1 _ rfl).1 N (fun j => .int (f j))) (fun q => by cases q) (by show ¬ (i < 0 ∨ (arrV _ _ _).slots.size ≤ _); rw [arrV_size]; exact hin) rfl rfl hd fun H1 e1 z1 o1 => ?_
  have he : va_at E.1 bz_Cl (a, .inl (E.1.1 21, N, .inl (upd f i.toNatClampNeg x))) H1 := by
    show H1[a]? = some (vp_cell _ _)
    rw [e1]
    rw [vp_cell_i, vp_cell_i, arrV_store]
    congr 2
    funext y
    by_cases hy : y = i.toNatClampNeg
    · subst hy
      simp [updV, upd]
      try rfl
    · simp [updV, upd, hy]
  obtain ⟨hP1, hD1⟩ := bz_kk hP hD hL hg hj he o1
  exact kk p e s m args below meth c H1 _ ls C (z1.trans hz) hP1 hD1 (hS.put z1 o1 (hD.2 j _ hj)) hl
theorem g_bast {a N : Nat} {f : Nat → Int32} {i : Int32} {x : Int32} (hd : decode M.2.1 pc = .ok (.bastore, 1)) (hq : pc + 1 = q) (hL : a ∈ L) (hg : g a = .inl (E.1.1 20, N, .inl f)) (hin : vp_in i N) (kk : bz_G l E M R L0 z0 Fn sz k n L  (va_up g a (.inl (E.1.1 20, N, .inl (upd f i.toNatClampNeg (vp_nar .byte x))))) q lv st) : bz_G l E M R L0 z0 Fn sz k n L g pc lv (.int x :: .int i :: .ref a :: st) := by
  subst hq
  intro p e s m args below meth c H locs ls C hz hP hD hS hl
  obtain ⟨j, hj⟩ := bz_at hL hg
  refine W.bast C.1 C.2.1 (hP j _ hj) ((C.2.2.2.2.2.2.1.2 0 _ rfl).1 N (fun j => .int (f j))) (fun q => by cases q) (by show ¬ (i < 0 ∨ (arrV _ _ _).slots.size ≤ _); rw [arrV_size]; exact hin) rfl rfl hd fun H1 e1 z1 o1 => ?_
  have he : va_at E.1 bz_Cl (a, .inl (E.1.1 20, N, .inl (upd f i.toNatClampNeg (vp_nar .byte x)))) H1 := by
    show H1[a]? = some (vp_cell _ _)
    rw [e1]
    rw [vp_cell_i, vp_cell_i, arrV_store]
    congr 2
    funext y
    by_cases hy : y = i.toNatClampNeg
    · subst hy
      simp [updV, upd, vp_nar]
      try rfl
    · simp [updV, upd, vp_nar, hy]
  obtain ⟨hP1, hD1⟩ := bz_kk hP hD hL hg hj he o1
  exact kk p e s m args below meth c H1 _ ls C (z1.trans hz) hP1 hD1 (hS.put z1 o1 (hD.2 j _ hj)) hl
theorem g_zast {a N : Nat} {f : Nat → Int32} {i : Int32} {x : Int32} (hd : decode M.2.1 pc = .ok (.bastore, 1)) (hq : pc + 1 = q) (hL : a ∈ L) (hg : g a = .inl (E.1.1 22, N, .inl f)) (hin : vp_in i N) (kk : bz_G l E M R L0 z0 Fn sz k n L  (va_up g a (.inl (E.1.1 22, N, .inl (upd f i.toNatClampNeg (vp_nar .boolean x))))) q lv st) : bz_G l E M R L0 z0 Fn sz k n L g pc lv (.int x :: .int i :: .ref a :: st) := by
  subst hq
  intro p e s m args below meth c H locs ls C hz hP hD hS hl
  obtain ⟨j, hj⟩ := bz_at hL hg
  refine W.zast C.1 C.2.1 (hP j _ hj) ((C.2.2.2.2.2.2.1.2 2 _ rfl).1 N (fun j => .int (f j))) (fun q => by cases q) (by show ¬ (i < 0 ∨ (arrV _ _ _).slots.size ≤ _); rw [arrV_size]; exact hin) rfl rfl hd fun H1 e1 z1 o1 => ?_
  have he : va_at E.1 bz_Cl (a, .inl (E.1.1 22, N, .inl (upd f i.toNatClampNeg (vp_nar .boolean x)))) H1 := by
    show H1[a]? = some (vp_cell _ _)
    rw [e1]
    rw [vp_cell_i, vp_cell_i, arrV_store]
    congr 2
    funext y
    by_cases hy : y = i.toNatClampNeg
    · subst hy
      simp [updV, upd, vp_nar]
      try rfl
    · simp [updV, upd, vp_nar, hy]
  obtain ⟨hP1, hD1⟩ := bz_kk hP hD hL hg hj he o1
  exact kk p e s m args below meth c H1 _ ls C (z1.trans hz) hP1 hD1 (hS.put z1 o1 (hD.2 j _ hj)) hl
theorem g_last {a N : Nat} {f : Nat → Int64} {i : Int32} {x : Int64} (hd : decode M.2.1 pc = .ok (.lastore, 1)) (hq : pc + 1 = q) (hL : a ∈ L) (hg : g a = .inl (E.1.1 24, N, .inr (.inl f))) (hin : vp_in i N) (kk : bz_G l E M R L0 z0 Fn sz k n L  (va_up g a (.inl (E.1.1 24, N, .inr (.inl (vp_updL f i.toNatClampNeg x))))) q lv st) : bz_G l E M R L0 z0 Fn sz k n L g pc lv (.long x :: .int i :: .ref a :: st) := by
  subst hq
  intro p e s m args below meth c H locs ls C hz hP hD hS hl
  obtain ⟨j, hj⟩ := bz_at hL hg
  refine W.last C.1 C.2.1 (hP j _ hj) ((C.2.2.2.2.2.2.1.2 4 _ rfl).1 N (fun j => .long (f j))) (fun q => by cases q) (by show ¬ (i < 0 ∨ (arrV _ _ _).slots.size ≤ _); rw [arrV_size]; exact hin) rfl rfl hd fun H1 e1 z1 o1 => ?_
  have he : va_at E.1 bz_Cl (a, .inl (E.1.1 24, N, .inr (.inl (vp_updL f i.toNatClampNeg x)))) H1 := by
    show H1[a]? = some (vp_cell _ _)
    rw [e1]
    rw [vp_cell_l, vp_cell_l, arrV_store]
    congr 2
    funext y
    by_cases hy : y = i.toNatClampNeg
    · subst hy
      simp [updV, vp_updL]
      try rfl
    · simp [updV, vp_updL, hy]
  obtain ⟨hP1, hD1⟩ := bz_kk hP hD hL hg hj he o1
  exact kk p e s m args below meth c H1 _ ls C (z1.trans hz) hP1 hD1 (hS.put z1 o1 (hD.2 j _ hj)) hl
theorem g_dast {a N : Nat} {f : Nat → UInt64} {i : Int32} {x : UInt64} (hd : decode M.2.1 pc = .ok (.dastore, 1)) (hq : pc + 1 = q) (hL : a ∈ L) (hg : g a = .inl (E.1.1 25, N, .inr (.inr (.inr (.inl f))))) (hin : vp_in i N) (kk : bz_G l E M R L0 z0 Fn sz k n L  (va_up g a (.inl (E.1.1 25, N, .inr (.inr (.inr (.inl (va_up f i.toNatClampNeg x))))))) q lv st) : bz_G l E M R L0 z0 Fn sz k n L g pc lv (.double x :: .int i :: .ref a :: st) := by
  subst hq
  intro p e s m args below meth c H locs ls C hz hP hD hS hl
  obtain ⟨j, hj⟩ := bz_at hL hg
  refine W.dast C.1 C.2.1 (hP j _ hj) ((C.2.2.2.2.2.2.1.2 5 _ rfl).1 N (fun j => .double (f j))) (fun q => by cases q) (by show ¬ (i < 0 ∨ (arrV _ _ _).slots.size ≤ _); rw [arrV_size]; exact hin) rfl rfl hd fun H1 e1 z1 o1 => ?_
  have he : va_at E.1 bz_Cl (a, .inl (E.1.1 25, N, .inr (.inr (.inr (.inl (va_up f i.toNatClampNeg x)))))) H1 := by
    show H1[a]? = some (vp_cell _ _)
    rw [e1]
    rw [vp_cell_d, vp_cell_d, arrV_store]
    congr 2
    funext y
    by_cases hy : y = i.toNatClampNeg
    · subst hy
      simp [updV, va_up]
      try rfl
    · simp [updV, va_up, hy]
  obtain ⟨hP1, hD1⟩ := bz_kk hP hD hL hg hj he o1
  exact kk p e s m args below meth c H1 _ ls C (z1.trans hz) hP1 hD1 (hS.put z1 o1 (hD.2 j _ hj)) hl
theorem g_ldcS {idx i : Nat} {tx : String} (hd : decode M.2.1 pc = .ok (.ldc idx, 2)) (hq : pc + 2 = q) (hs : (M.1.cls, idx, tx, i) ∈ bz_str) (kk : bz_G l E M R L0 z0 Fn sz k n L g q lv (.ref (E.2.1 i) :: st)) : bz_G l E M R L0 z0 Fn sz k n L g pc lv st := by
  subst hq
  intro p e s m args below meth c H locs ls C hz hP hD hS hl
  exact va_ldcS C.1 C.2.1 C.2.2.2.2.1 (C.2.2.2.2.2.2.2.2.2.2.2.1.2.1 _ hs) hd (kk p e s m args below meth c H locs ls C hz hP hD hS hl)
end BZ
