theorem bz_le {a b : Nat} (h : Nat.ble a b = true) : a ≤ b := Nat.le_of_ble_eq_true h
/-! rows over numbers that are naturals: nI x -/
def bz_all (lv : List (Nat × Value)) : List (Nat × Value) → Prop
  | [] => True
  | q :: r => lv.lookup q.1 = some q.2 ∧ bz_all lv r
theorem bz_all.mem {lv : List (Nat × Value)} : ∀ {l1 : List (Nat × Value)}, bz_all lv l1 → ∀ q ∈ l1, lv.lookup q.1 = some q.2
  | [], _, _, hq => absurd hq List.not_mem_nil
  | _ :: _, h, q, hq => (List.mem_cons.mp hq).elim (fun e => by rw [e]; exact h.1) (fun e => bz_all.mem h.2 q e)
section GN
variable {l : Launch} {E : bz_E} {M : bz_M} {R : Room} {L0 : List Nat} {z0 : Nat} {Fn : bz_F} {sz k n : Nat} {L : List Nat} {g0 g : Nat → va_E} {pc q t : Nat} {lv : List (Nat × Value)} {st : List Value} {bs : bz_L} {j o i a x y : Nat} {es : List va_E}
theorem g_lvs {lv1 : List (Nat × Value)} (h : bz_all lv lv1) (kk : bz_G l E M R L0 z0 Fn sz k n L g pc lv1 st) : bz_G l E M R L0 z0 Fn sz k n L g pc lv st := g_lv (fun i v hv => h.mem (i, v) (bz_mem hv)) kk
theorem g_eqi {u v : Int32} (h : u = v) (kk : bz_G l E M R L0 z0 Fn sz k n L g pc lv (.int v :: st)) : bz_G l E M R L0 z0 Fn sz k n L g pc lv (.int u :: st) := h ▸ kk
theorem g_iaddN (hd : decode M.2.1 pc = .ok (.iadd, 1)) (hq : pc + 1 = q) (kk : bz_G l E M R L0 z0 Fn sz k n L g q lv (.int (nI (x + y)) :: st)) : bz_G l E M R L0 z0 Fn sz k n L g pc lv (.int (nI y) :: .int (nI x) :: st) := g_iadd hd hq (by rw [nI_add]; exact kk)
theorem bz_mulI (x y : Nat) : nI x * nI y = nI (x * y) := (Int32.ofNat_mul x y).symm
theorem g_imulN (hd : decode M.2.1 pc = .ok (.imul, 1)) (hq : pc + 1 = q) (kk : bz_G l E M R L0 z0 Fn sz k n L g q lv (.int (nI (x * y)) :: st)) : bz_G l E M R L0 z0 Fn sz k n L g pc lv (.int (nI y) :: .int (nI x) :: st) := g_imul hd hq (by rw [bz_mulI]; exact kk)
theorem bz_subI {x y : Nat} (h : y ≤ x) : nI x - nI y = nI (x - y) := by
  have h1 : nI (x - y) + nI y = nI x := by rw [nI_add]; congr 1; omega
  rw [← h1, Int32.add_sub_cancel]
theorem g_isubN (hd : decode M.2.1 pc = .ok (.isub, 1)) (hq : pc + 1 = q) (h : y ≤ x) (kk : bz_G l E M R L0 z0 Fn sz k n L g q lv (.int (nI (x - y)) :: st)) : bz_G l E M R L0 z0 Fn sz k n L g pc lv (.int (nI y) :: .int (nI x) :: st) := g_isub hd hq (by rw [bz_subI h]; exact kk)
theorem g_iincN {c : Nat} {z : Int} (hd : decode M.2.1 pc = .ok (.iinc i z, 3)) (hq : pc + 3 = q) (hn : i < M.2.2.1) (hc : lv.all (fun z => z.2.category == 1) = true) (hx : lv.lookup i = some (.int (nI x))) (hz : Int32.ofInt z = nI c) (kk : bz_G l E M R L0 z0 Fn sz k n L g q ((i, .int (nI (x + c))) :: lv) st) : bz_G l E M R L0 z0 Fn sz k n L g pc lv st := g_iinc hd hq hn hc hx (by rw [hz, nI_add]) kk
theorem g_ifN_lt {c : Int} (hd : decode M.2.1 pc = .ok (.ifCond .lt c, 3)) (hq : pc + 3 = q) (ht : (pc : Int) + c = (t : Int)) (hx : x < 2 ^ 31) (k2 : bz_G l E M R L0 z0 Fn sz k n L g q lv st) : bz_G l E M R L0 z0 Fn sz k n L g pc lv (.int (nI x) :: st) := g_if_lt hd hq ht (fun h => absurd h (nI_pos hx)) (fun _ => k2)
theorem g_ifN_ge {c : Int} (hd : decode M.2.1 pc = .ok (.ifCond .ge c, 3)) (hq : pc + 3 = q) (ht : (pc : Int) + c = (t : Int)) (hx : x < 2 ^ 31) (k1 : bz_G l E M R L0 z0 Fn sz k n L g t lv st) : bz_G l E M R L0 z0 Fn sz k n L g pc lv (.int (nI x) :: st) := g_if_ge hd hq ht (fun _ => k1) (fun h => absurd (nI_pos' hx) h)
theorem g_ifN_eq {c : Int} (hd : decode M.2.1 pc = .ok (.ifCond .eq c, 3)) (hq : pc + 3 = q) (ht : (pc : Int) + c = (t : Int)) (hx : x < 2 ^ 31) (k1 : x = 0 → bz_G l E M R L0 z0 Fn sz k n L g t lv st) (k2 : x ≠ 0 → bz_G l E M R L0 z0 Fn sz k n L g q lv st) : bz_G l E M R L0 z0 Fn sz k n L g pc lv (.int (nI x) :: st) := g_if_eq hd hq ht (fun h => k1 ((nI_eq hx (by decide : 0 < 2 ^ 31)).mp h)) (fun h => k2 (fun e => h (by rw [e]; rfl)))
theorem g_ifN_ne {c : Int} (hd : decode M.2.1 pc = .ok (.ifCond .ne c, 3)) (hq : pc + 3 = q) (ht : (pc : Int) + c = (t : Int)) (hx : x < 2 ^ 31) (k1 : x ≠ 0 → bz_G l E M R L0 z0 Fn sz k n L g t lv st) (k2 : x = 0 → bz_G l E M R L0 z0 Fn sz k n L g q lv st) : bz_G l E M R L0 z0 Fn sz k n L g pc lv (.int (nI x) :: st) := g_if_ne hd hq ht (fun h => k1 (fun e => h (by rw [e]; rfl))) (fun h => k2 ((nI_eq hx (by decide : 0 < 2 ^ 31)).mp h))
theorem g_ifN_gt {c : Int} (hd : decode M.2.1 pc = .ok (.ifCond .gt c, 3)) (hq : pc + 3 = q) (ht : (pc : Int) + c = (t : Int)) (hx : x < 2 ^ 31) (k1 : 0 < x → bz_G l E M R L0 z0 Fn sz k n L g t lv st) (k2 : x = 0 → bz_G l E M R L0 z0 Fn sz k n L g q lv st) : bz_G l E M R L0 z0 Fn sz k n L g pc lv (.int (nI x) :: st) := g_if_gt hd hq ht (fun h => k1 ((nI_ltI (by decide : 0 < 2 ^ 31) hx).mp h)) (fun h => k2 (by
  rcases Nat.eq_zero_or_pos x with e | e
  · exact e
  · exact absurd ((nI_ltI (by decide : 0 < 2 ^ 31) hx).mpr e) h))
theorem g_ifN_le {c : Int} (hd : decode M.2.1 pc = .ok (.ifCond .le c, 3)) (hq : pc + 3 = q) (ht : (pc : Int) + c = (t : Int)) (hx : x < 2 ^ 31) (k1 : x = 0 → bz_G l E M R L0 z0 Fn sz k n L g t lv st) (k2 : 0 < x → bz_G l E M R L0 z0 Fn sz k n L g q lv st) : bz_G l E M R L0 z0 Fn sz k n L g pc lv (.int (nI x) :: st) := g_if_le hd hq ht (fun h => k1 (Nat.le_zero.mp ((nI_leI hx (by decide : 0 < 2 ^ 31)).mp h))) (fun h => k2 (by
  rcases Nat.eq_zero_or_pos x with e | e
  · exact absurd ((nI_leI hx (by decide : 0 < 2 ^ 31)).mpr (Nat.le_of_eq e)) h
  · exact e))
theorem g_icmpN_eq {c : Int} (hd : decode M.2.1 pc = .ok (.if_icmp .eq c, 3)) (hq : pc + 3 = q) (ht : (pc : Int) + c = (t : Int)) (hx : x < 2 ^ 31) (hy : y < 2 ^ 31) (k1 : x = y → bz_G l E M R L0 z0 Fn sz k n L g t lv st) (k2 : x ≠ y → bz_G l E M R L0 z0 Fn sz k n L g q lv st) : bz_G l E M R L0 z0 Fn sz k n L g pc lv (.int (nI y) :: .int (nI x) :: st) := g_icmp_eq hd hq ht (fun h => k1 ((nI_eq hx hy).mp h)) (fun h => k2 (by
  have : ¬ (x = y) := fun e => h ((nI_eq hx hy).mpr e)
  omega))
theorem g_icmpN_lt {c : Int} (hd : decode M.2.1 pc = .ok (.if_icmp .lt c, 3)) (hq : pc + 3 = q) (ht : (pc : Int) + c = (t : Int)) (hx : x < 2 ^ 31) (hy : y < 2 ^ 31) (k1 : x < y → bz_G l E M R L0 z0 Fn sz k n L g t lv st) (k2 : y ≤ x → bz_G l E M R L0 z0 Fn sz k n L g q lv st) : bz_G l E M R L0 z0 Fn sz k n L g pc lv (.int (nI y) :: .int (nI x) :: st) := g_icmp_lt hd hq ht (fun h => k1 ((nI_ltI hx hy).mp h)) (fun h => k2 (by
  have : ¬ (x < y) := fun e => h ((nI_ltI hx hy).mpr e)
  omega))
theorem g_icmpN_ge {c : Int} (hd : decode M.2.1 pc = .ok (.if_icmp .ge c, 3)) (hq : pc + 3 = q) (ht : (pc : Int) + c = (t : Int)) (hx : x < 2 ^ 31) (hy : y < 2 ^ 31) (k1 : y ≤ x → bz_G l E M R L0 z0 Fn sz k n L g t lv st) (k2 : x < y → bz_G l E M R L0 z0 Fn sz k n L g q lv st) : bz_G l E M R L0 z0 Fn sz k n L g pc lv (.int (nI y) :: .int (nI x) :: st) := g_icmp_ge hd hq ht (fun h => k1 ((nI_leI hy hx).mp h)) (fun h => k2 (by
  have : ¬ (y ≤ x) := fun e => h ((nI_leI hy hx).mpr e)
  omega))
theorem g_icmpN_gt {c : Int} (hd : decode M.2.1 pc = .ok (.if_icmp .gt c, 3)) (hq : pc + 3 = q) (ht : (pc : Int) + c = (t : Int)) (hx : x < 2 ^ 31) (hy : y < 2 ^ 31) (k1 : y < x → bz_G l E M R L0 z0 Fn sz k n L g t lv st) (k2 : x ≤ y → bz_G l E M R L0 z0 Fn sz k n L g q lv st) : bz_G l E M R L0 z0 Fn sz k n L g pc lv (.int (nI y) :: .int (nI x) :: st) := g_icmp_gt hd hq ht (fun h => k1 ((nI_ltI hy hx).mp h)) (fun h => k2 (by
  have : ¬ (y < x) := fun e => h ((nI_ltI hy hx).mpr e)
  omega))
theorem g_icmpN_le {c : Int} (hd : decode M.2.1 pc = .ok (.if_icmp .le c, 3)) (hq : pc + 3 = q) (ht : (pc : Int) + c = (t : Int)) (hx : x < 2 ^ 31) (hy : y < 2 ^ 31) (k1 : x ≤ y → bz_G l E M R L0 z0 Fn sz k n L g t lv st) (k2 : y < x → bz_G l E M R L0 z0 Fn sz k n L g q lv st) : bz_G l E M R L0 z0 Fn sz k n L g pc lv (.int (nI y) :: .int (nI x) :: st) := g_icmp_le hd hq ht (fun h => k1 ((nI_leI hx hy).mp h)) (fun h => k2 (by
  have : ¬ (x ≤ y) := fun e => h ((nI_leI hx hy).mpr e)
  omega))
theorem g_icmpN_ne {c : Int} (hd : decode M.2.1 pc = .ok (.if_icmp .ne c, 3)) (hq : pc + 3 = q) (ht : (pc : Int) + c = (t : Int)) (hx : x < 2 ^ 31) (hy : y < 2 ^ 31) (k1 : x ≠ y → bz_G l E M R L0 z0 Fn sz k n L g t lv st) (k2 : x = y → bz_G l E M R L0 z0 Fn sz k n L g q lv st) : bz_G l E M R L0 z0 Fn sz k n L g pc lv (.int (nI y) :: .int (nI x) :: st) := g_icmp_ne hd hq ht (fun h => k1 (fun e => h (by rw [e]))) (fun h => k2 ((nI_eq hx hy).mp h))
theorem gb_ialdN {N : Nat} {f : Nat → Int32} (hd : decode M.2.1 pc = .ok (.iaload, 1)) (hq : pc + 1 = q) (hB : bz_B L g0 g bs) (hb : bs[j]? = some (o, es)) (he : es[i]? = some (.inl (E.1.1 21, N, .inl f))) (ha : a = o + i) (hm : x < N) (hN : N < 2 ^ 31) (kk : bz_G l E M R L0 z0 Fn sz k n L g q lv (.int (f x) :: st)) : bz_G l E M R L0 z0 Fn sz k n L g pc lv (.int (nI x) :: .ref a :: st) :=
  gb_iald hd hq hB hb he ha (bz_vn hm hN) (by rw [nI_clamp (by omega)]; exact kk)
theorem gb_baldN {N : Nat} {f : Nat → Int32} (hd : decode M.2.1 pc = .ok (.baload, 1)) (hq : pc + 1 = q) (hB : bz_B L g0 g bs) (hb : bs[j]? = some (o, es)) (he : es[i]? = some (.inl (E.1.1 20, N, .inl f))) (ha : a = o + i) (hm : x < N) (hN : N < 2 ^ 31) (kk : bz_G l E M R L0 z0 Fn sz k n L g q lv (.int (f x) :: st)) : bz_G l E M R L0 z0 Fn sz k n L g pc lv (.int (nI x) :: .ref a :: st) :=
  gb_bald hd hq hB hb he ha (bz_vn hm hN) (by rw [nI_clamp (by omega)]; exact kk)
theorem gb_zaldN {N : Nat} {f : Nat → Int32} (hd : decode M.2.1 pc = .ok (.baload, 1)) (hq : pc + 1 = q) (hB : bz_B L g0 g bs) (hb : bs[j]? = some (o, es)) (he : es[i]? = some (.inl (E.1.1 22, N, .inl f))) (ha : a = o + i) (hm : x < N) (hN : N < 2 ^ 31) (kk : bz_G l E M R L0 z0 Fn sz k n L g q lv (.int (f x) :: st)) : bz_G l E M R L0 z0 Fn sz k n L g pc lv (.int (nI x) :: .ref a :: st) :=
  gb_zald hd hq hB hb he ha (bz_vn hm hN) (by rw [nI_clamp (by omega)]; exact kk)
theorem gb_iastN {N : Nat} {f : Nat → Int32} {v : Int32} (hd : decode M.2.1 pc = .ok (.iastore, 1)) (hq : pc + 1 = q) (hB : bz_B L g0 g bs) (hb : bs[j]? = some (o, es)) (he : es[i]? = some (.inl (E.1.1 21, N, .inl f))) (ha : a = o + i) (hm : x < N) (hN : N < 2 ^ 31) (kk : ∀ g1 : Nat → va_E, bz_B L g0 g1 (bs.set j (o, es.set i (.inl (E.1.1 21, N, .inl (upd f x v))))) → bz_G l E M R L0 z0 Fn sz k n L  g1 q lv st) : bz_G l E M R L0 z0 Fn sz k n L g pc lv (.int v :: .int (nI x) :: .ref a :: st) :=
  gb_iast hd hq hB hb he ha (bz_vn hm hN) (by rw [nI_clamp (by omega)]; exact kk)
theorem gb_bastN {N : Nat} {f : Nat → Int32} {v : Int32} (hd : decode M.2.1 pc = .ok (.bastore, 1)) (hq : pc + 1 = q) (hB : bz_B L g0 g bs) (hb : bs[j]? = some (o, es)) (he : es[i]? = some (.inl (E.1.1 20, N, .inl f))) (ha : a = o + i) (hm : x < N) (hN : N < 2 ^ 31) (kk : ∀ g1 : Nat → va_E, bz_B L g0 g1 (bs.set j (o, es.set i (.inl (E.1.1 20, N, .inl (upd f x (vp_nar .byte v)))))) → bz_G l E M R L0 z0 Fn sz k n L  g1 q lv st) : bz_G l E M R L0 z0 Fn sz k n L g pc lv (.int v :: .int (nI x) :: .ref a :: st) :=
  gb_bast hd hq hB hb he ha (bz_vn hm hN) (by rw [nI_clamp (by omega)]; exact kk)
theorem gb_zastN {N : Nat} {f : Nat → Int32} {v : Int32} (hd : decode M.2.1 pc = .ok (.bastore, 1)) (hq : pc + 1 = q) (hB : bz_B L g0 g bs) (hb : bs[j]? = some (o, es)) (he : es[i]? = some (.inl (E.1.1 22, N, .inl f))) (ha : a = o + i) (hm : x < N) (hN : N < 2 ^ 31) (kk : ∀ g1 : Nat → va_E, bz_B L g0 g1 (bs.set j (o, es.set i (.inl (E.1.1 22, N, .inl (upd f x (vp_nar .boolean v)))))) → bz_G l E M R L0 z0 Fn sz k n L  g1 q lv st) : bz_G l E M R L0 z0 Fn sz k n L g pc lv (.int v :: .int (nI x) :: .ref a :: st) :=
  gb_zast hd hq hB hb he ha (bz_vn hm hN) (by rw [nI_clamp (by omega)]; exact kk)
end GN
/-! System.arraycopy, Math.max, Math.min -/
def bz_kc (own : String) (idx : Nat) : Prop := Cond.methodLink own idx arraycopyName ∈ bz_tbl ∧ Cond.native arraycopyName ∈ bz_tbl ∧ Cond.static arraycopyName ∈ bz_tbl ∧ Cond.initialized "java/lang/System" ∈ bz_tbl
def bz_kmx (own : String) (idx : Nat) : Prop := Cond.methodLink own idx Lib.Math.max.name ∈ bz_tbl ∧ Cond.static Lib.Math.max.name ∈ bz_tbl ∧ Cond.initialized "java/lang/Math" ∈ bz_tbl ∧ Cond.code Lib.Math.max.name Lib.Math.max.code 2 (some .int) ∈ bz_tbl
def bz_kmn (own : String) (idx : Nat) : Prop := Cond.methodLink own idx Lib.Math.min.name ∈ bz_tbl ∧ Cond.static Lib.Math.min.name ∈ bz_tbl ∧ Cond.initialized "java/lang/Math" ∈ bz_tbl ∧ Cond.code Lib.Math.min.name Lib.Math.min.code 2 (some .int) ∈ bz_tbl
theorem bz_sz {p : Program} {l : Launch} {e : Env} {R : Room} {s : State} {m : MethodId} {args : Array Value} {below : List Frame} {meth : Method} {c : Code} {H : Heap} {locs : List Loc} {cells slots : Nat} {Q : State → Prop} {fr : JFrame} (h : H.size ≤ s.heap.size + cells → W p l e R s m args below meth c H locs cells slots Q fr) : W p l e R s m args below meth c H locs cells slots Q fr := fun T hT X => h (by
  have := X.same.2.2.1
  rw [← hT]
  exact this) T hT X
section GD
variable {l : Launch} {E : bz_E} {M : bz_M} {d mc ms : Nat} {L0 : List Nat} {z0 : Nat} {Fn : bz_F} {sz k n : Nat} {L : List Nat} {g0 g : Nat → va_E} {pc q : Nat} {lv : List (Nat × Value)} {st : List Value} {bs : bz_L}
theorem g_max {idx : Nat} {x y : Int32} (hd : decode M.2.1 pc = .ok (.invokestatic idx, 3)) (hq : pc + 3 = q) (hk : bz_kmx M.1.cls idx) (hdd : 0 < d) (hr : (st.map fun v => v.category).sum ≤ 8) (hkc : k ≤ mc) (hns : n ≤ ms) (kk : bz_G l E M (bz_R d mc ms) L0 z0 Fn sz k n L g q lv (.int (if x < y then y else x) :: st)) : bz_G l E M (bz_R d mc ms) L0 z0 Fn sz k n L g pc lv (.int y :: .int x :: st) := by
  subst hq
  intro p e s m args below meth c H locs ls C hz hP hD hS hl
  have hts := C.2.2.2.2.2.1
  exact va_mmax (R := bz_R d mc ms) (rest := st) C.1 C.2.1 (by rw [C.2.2.2.1, hl.1]) C.2.2.2.2.1 (hts _ hk.1) (hts _ hk.2.1) (hts _ hk.2.2.1) (hts _ hk.2.2.2) hdd (by show _ + 13 ≤ 64 * d; omega) hkc hns hd (kk p e s m args below meth c H locs ls C hz hP hD hS hl)
theorem g_min {idx : Nat} {x y : Int32} (hd : decode M.2.1 pc = .ok (.invokestatic idx, 3)) (hq : pc + 3 = q) (hk : bz_kmn M.1.cls idx) (hdd : 0 < d) (hr : (st.map fun v => v.category).sum ≤ 8) (hkc : k ≤ mc) (hns : n ≤ ms) (kk : bz_G l E M (bz_R d mc ms) L0 z0 Fn sz k n L g q lv (.int (if y < x then y else x) :: st)) : bz_G l E M (bz_R d mc ms) L0 z0 Fn sz k n L g pc lv (.int y :: .int x :: st) := by
  subst hq
  intro p e s m args below meth c H locs ls C hz hP hD hS hl
  have hts := C.2.2.2.2.2.1
  exact va_mmin (R := bz_R d mc ms) (rest := st) C.1 C.2.1 (by rw [C.2.2.2.1, hl.1]) C.2.2.2.2.1 (hts _ hk.1) (hts _ hk.2.1) (hts _ hk.2.2.1) (hts _ hk.2.2.2) hdd (by show _ + 13 ≤ 64 * d; omega) hkc hns hd (kk p e s m args below meth c H locs ls C hz hP hD hS hl)
/-- arraycopy of ints, in a method that has made nothing yet -/
theorem gb_copyi {idx j0 o0 i0 a0 n0 j1 o1 i1 a1 n1 sp dp cn : Nat} {es0 es1 : List va_E} {f0 f1 : Nat → Int32} (hd : decode M.2.1 pc = .ok (.invokestatic idx, 3)) (hq : pc + 3 = q) (hk : bz_kc M.1.cls idx) (hdd : 0 < d) (hr : (st.map fun v => v.category).sum ≤ 8) (hB : bz_B L g0 g bs) (hb0 : bs[j0]? = some (o0, es0)) (he0 : es0[i0]? = some (.inl (E.1.1 21, n0, .inl f0))) (ha0 : a0 = o0 + i0) (hb1 : bs[j1]? = some (o1, es1)) (he1 : es1[i1]? = some (.inl (E.1.1 21, n1, .inl f1))) (ha1 : a1 = o1 + i1) (h4 : sp + cn ≤ n0) (h5 : dp + cn ≤ n1) (hn0 : n0 < 2 ^ 31) (hn1 : n1 < 2 ^ 31)
    (kk : ∀ g1 : Nat → va_E, bz_B L g0 g1 (bs.set j1 (o1, es1.set i1 (.inl (E.1.1 21, n1, .inl (va_cpy f0 f1 sp dp cn))))) → bz_G l E M (bz_R d mc ms) L0 z0 Fn z0 0 n L g1 q lv st) : bz_G l E M (bz_R d mc ms) L0 z0 Fn z0 0 n L g pc lv (.int (nI cn) :: .int (nI dp) :: .ref a1 :: .int (nI sp) :: .ref a0 :: st) := by
  subst hq; subst ha0; subst ha1
  intro p e s m args below meth c H locs ls C hz hP hD hS hl
  have hts := C.2.2.2.2.2.1
  obtain ⟨hL0, hg0⟩ := hB.1.at hb0 i0 _ he0
  obtain ⟨hL1, hg1⟩ := hB.1.at hb1 i1 _ he1
  obtain ⟨x0, hx0⟩ := bz_at hL0 hg0
  obtain ⟨x1, hx1⟩ := bz_at hL1 hg1
  have h7 : ∀ x : Nat, (st.map fun v => v.category).sum + (nativeFrameWords "java/lang/System" "arraycopy" 5 + 11) ≤ 64 * d := fun _ => by
    have : nativeFrameWords "java/lang/System" "arraycopy" 5 ≤ 40 := by decide +kernel
    omega
  refine va_copyi (R := bz_R d mc ms) (rest := st) (sp := nI sp) (dp := nI dp) (n := nI cn) C.1 C.2.1 (by rw [C.2.2.2.1, hl.1]) C.2.2.2.2.1 (hts _ hk.1) (hts _ hk.2.1) (hts _ hk.2.2.1) (hts _ hk.2.2.2) C.2.2.2.2.2.2.1 hP hD hS x0 x1 1 1 hx0 hx1 rfl rfl rfl (nI_pos (by omega)) (nI_pos (by omega)) (nI_pos (by omega)) (by rw [nI_clamp (by omega), nI_clamp (by omega)]; exact h4) (by rw [nI_clamp (by omega), nI_clamp (by omega)]; exact h5) (fun _ _ => rfl) hdd (h7 0) hd (fun H1 locs1 hP1 hD1 hS1 => ?_)
  rw [bz_up hD hL1 hg1 hx1] at hP1 hD1
  rw [nI_clamp (by omega), nI_clamp (by omega), nI_clamp (by omega)] at hP1 hD1
  refine bz_sz (fun hs => ?_)
  exact kk _ (hB.up hb1 (List.getElem?_eq_some_iff.mp he1).1 _) p e s m args below meth c H1 locs1 ls C (by have := hS1.1; have h9 := C.2.2.2.2.2.2.2.2.2.1; omega) hP1 hD1 hS1 hl
end GD

theorem kc_X2_28 : bz_kc RX2 28 := ⟨bz_mw 481 (by decide +kernel), bz_mw 483 (by decide +kernel), bz_mw 482 (by decide +kernel), bz_mw 107 (by decide +kernel)⟩
theorem kc_X7_30 : bz_kc RX7 30 := ⟨bz_mw 488 (by decide +kernel), bz_mw 483 (by decide +kernel), bz_mw 482 (by decide +kernel), bz_mw 107 (by decide +kernel)⟩
theorem kc_X4_62 : bz_kc RX4 62 := ⟨bz_mw 489 (by decide +kernel), bz_mw 483 (by decide +kernel), bz_mw 482 (by decide +kernel), bz_mw 107 (by decide +kernel)⟩
theorem kmn_X4_84 : bz_kmn RX4 84 := ⟨bz_mw 523 (by decide +kernel), bz_mw 524 (by decide +kernel), bz_mw 108 (by decide +kernel), bz_mw 525 (by decide +kernel)⟩
theorem kmx_X4_130 : bz_kmx RX4 130 := ⟨bz_mw 604 (by decide +kernel), bz_mw 605 (by decide +kernel), bz_mw 108 (by decide +kernel), bz_mw 606 (by decide +kernel)⟩
theorem kmn_X5_73 : bz_kmn RX5 73 := ⟨bz_mw 621 (by decide +kernel), bz_mw 524 (by decide +kernel), bz_mw 108 (by decide +kernel), bz_mw 525 (by decide +kernel)⟩
theorem kmx_X5_78 : bz_kmx RX5 78 := ⟨bz_mw 622 (by decide +kernel), bz_mw 605 (by decide +kernel), bz_mw 108 (by decide +kernel), bz_mw 606 (by decide +kernel)⟩
theorem kmn_X1_33 : bz_kmn RX1 33 := ⟨bz_mw 1092 (by decide +kernel), bz_mw 524 (by decide +kernel), bz_mw 108 (by decide +kernel), bz_mw 525 (by decide +kernel)⟩
