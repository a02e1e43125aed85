section GE
variable {l : Launch} {E : bz_E} {M : bz_M} {R : Room} {L0 : List Nat} {z0 : Nat} {Fn : bz_F} {sz k n : Nat} {L : List Nat} {g : Nat → va_E} {pc q t : Nat} {lv : List (Nat × Value)} {st : List Value}
theorem g_ldc {idx : Nat} {v : Int32} (hd : decode M.2.1 pc = .ok (.ldc idx, 2)) (hq : pc + 2 = q) (hk : Cond.constant M.1.cls idx v ∈ bz_tbl) (kk : bz_G l E M R L0 z0 Fn sz k n L g q lv (.int v :: st)) : bz_G l E M R L0 z0 Fn sz k n L g pc lv st := by
  subst hq
  intro p e s m args below meth c H locs ls C hz hP hD hS hl
  exact lv_ldc C.1 C.2.1 C.2.2.2.2.1 (C.2.2.2.2.2.1 _ hk) hd (kk p e s m args below meth c H locs ls C hz hP hD hS hl)
theorem g_ldcw {idx : Nat} {v : Int32} (hd : decode M.2.1 pc = .ok (.ldc_w idx, 3)) (hq : pc + 3 = q) (hk : Cond.constant M.1.cls idx v ∈ bz_tbl) (kk : bz_G l E M R L0 z0 Fn sz k n L g q lv (.int v :: st)) : bz_G l E M R L0 z0 Fn sz k n L g pc lv st := by
  subst hq
  intro p e s m args below meth c H locs ls C hz hP hD hS hl
  exact lv_ldcw C.1 C.2.1 C.2.2.2.2.1 (C.2.2.2.2.2.1 _ hk) hd (kk p e s m args below meth c H locs ls C hz hP hD hS hl)
theorem g_ldcf {idx : Nat} {v : UInt32} (hd : decode M.2.1 pc = .ok (.ldc idx, 2)) (hq : pc + 2 = q) (hk : Cond.constantFloat M.1.cls idx v ∈ bz_tbl) (kk : bz_G l E M R L0 z0 Fn sz k n L g q lv (.float v :: st)) : bz_G l E M R L0 z0 Fn sz k n L g pc lv st := by
  subst hq
  intro p e s m args below meth c H locs ls C hz hP hD hS hl
  exact lv_ldcf C.1 C.2.1 C.2.2.2.2.1 (C.2.2.2.2.2.1 _ hk) hd (kk p e s m args below meth c H locs ls C hz hP hD hS hl)
theorem g_tableIn {df lo hi : Int} {offs : Array Int} {len : Nat} {x : Int32} {off : Int} (hd : decode M.2.1 pc = .ok (.tableswitch df lo hi offs, len)) (h1 : ¬ x.toInt < lo) (h2 : ¬ hi < x.toInt) (ho : offs[(x.toInt - lo).toNat]? = some off) (ht : (pc : Int) + off = (t : Int)) (kk : bz_G l E M R L0 z0 Fn sz k n L g t lv st) : bz_G l E M R L0 z0 Fn sz k n L g pc lv (.int x :: st) := by
  intro p e s m args below meth c H locs ls C hz hP hD hS hl
  exact lv_tableIn C.1 C.2.1 hd h1 h2 ho ht (kk p e s m args below meth c H locs ls C hz hP hD hS hl)
theorem g_tableOut {df lo hi : Int} {offs : Array Int} {len : Nat} {x : Int32} (hd : decode M.2.1 pc = .ok (.tableswitch df lo hi offs, len)) (h : x.toInt < lo ∨ hi < x.toInt) (ht : (pc : Int) + df = (t : Int)) (kk : bz_G l E M R L0 z0 Fn sz k n L g t lv st) : bz_G l E M R L0 z0 Fn sz k n L g pc lv (.int x :: st) := by
  intro p e s m args below meth c H locs ls C hz hP hD hS hl
  exact lv_tableOut C.1 C.2.1 hd h ht (kk p e s m args below meth c H locs ls C hz hP hD hS hl)
theorem g_iincM {c i x : Nat} {z : Int} (hd : decode M.2.1 pc = .ok (.iinc i z, 3)) (hq : pc + 3 = q) (hn : i < M.2.2.1) (hc : lv.all (fun z => z.2.category == 1) = true) (hx : lv.lookup i = some (.int (nI x))) (hz : Int32.ofInt z = - nI c) (h : c ≤ x) (kk : bz_G l E M R L0 z0 Fn sz k n L g q ((i, .int (nI (x - c))) :: lv) st) : bz_G l E M R L0 z0 Fn sz k n L g pc lv st := g_iinc hd hq hn hc hx (by rw [hz, ← Int32.sub_eq_add_neg, bz_subI h]) kk
end GE
