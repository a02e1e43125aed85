/-! rows for floats -/
section GF
variable {l : Launch} {E : bz_E} {M : bz_M} {R : Room} {L0 : List Nat} {z0 : Nat} {Fn : bz_F} {sz k n : Nat} {L : List Nat} {g : Nat → va_E} {pc q t : Nat} {lv : List (Nat × Value)} {st : List Value}
theorem g_fsub {x y : UInt32} (hd : decode M.2.1 pc = .ok (.fsub, 1)) (hq : pc + 1 = q) (hne : vf_n32 (FP.fsub x y)) (kk : bz_G l E M R L0 z0 Fn sz k n L g q lv (.float (FP.fsub x y) :: st)) : bz_G l E M R L0 z0 Fn sz k n L g pc lv (.float y :: .float x :: st) := by
  subst hq
  intro p e s m args below meth c H locs ls C hz hP hD hS hl
  exact lv_fsub C.1 C.2.1 hd hne (kk p e s m args below meth c H locs ls C hz hP hD hS hl)
theorem g_fmul {x y : UInt32} (hd : decode M.2.1 pc = .ok (.fmul, 1)) (hq : pc + 1 = q) (hne : vf_n32 (FP.fmul x y)) (kk : bz_G l E M R L0 z0 Fn sz k n L g q lv (.float (FP.fmul x y) :: st)) : bz_G l E M R L0 z0 Fn sz k n L g pc lv (.float y :: .float x :: st) := by
  subst hq
  intro p e s m args below meth c H locs ls C hz hP hD hS hl
  exact lv_fmul C.1 C.2.1 hd hne (kk p e s m args below meth c H locs ls C hz hP hD hS hl)
theorem g_fdiv {x y : UInt32} (hd : decode M.2.1 pc = .ok (.fdiv, 1)) (hq : pc + 1 = q) (hne : vf_n32 (FP.fdiv x y)) (kk : bz_G l E M R L0 z0 Fn sz k n L g q lv (.float (FP.fdiv x y) :: st)) : bz_G l E M R L0 z0 Fn sz k n L g pc lv (.float y :: .float x :: st) := by
  subst hq
  intro p e s m args below meth c H locs ls C hz hP hD hS hl
  exact lv_fdiv C.1 C.2.1 hd hne (kk p e s m args below meth c H locs ls C hz hP hD hS hl)
theorem g_ddiv {x y : UInt64} (hd : decode M.2.1 pc = .ok (.ddiv, 1)) (hq : pc + 1 = q) (hne : vf_n64 (FP.ddiv x y)) (kk : bz_G l E M R L0 z0 Fn sz k n L g q lv (.double (FP.ddiv x y) :: st)) : bz_G l E M R L0 z0 Fn sz k n L g pc lv (.double y :: .double x :: st) := by
  subst hq
  intro p e s m args below meth c H locs ls C hz hP hD hS hl
  exact lv_ddiv C.1 C.2.1 hd hne (kk p e s m args below meth c H locs ls C hz hP hD hS hl)
theorem g_fcmp {x y : UInt32} {op : CmpOp} (hd : decode M.2.1 pc = .ok (.fcmp op, 1)) (hq : pc + 1 = q) (kk : bz_G l E M R L0 z0 Fn sz k n L g q lv (.int (Op.cmpValue (FP.fcmp x y) op) :: st)) : bz_G l E M R L0 z0 Fn sz k n L g pc lv (.float y :: .float x :: st) := by
  subst hq
  intro p e s m args below meth c H locs ls C hz hP hD hS hl
  exact lv_fcmp C.1 C.2.1 hd (kk p e s m args below meth c H locs ls C hz hP hD hS hl)
theorem g_dcmp {x y : UInt64} {op : CmpOp} (hd : decode M.2.1 pc = .ok (.dcmp op, 1)) (hq : pc + 1 = q) (kk : bz_G l E M R L0 z0 Fn sz k n L g q lv (.int (Op.cmpValue (FP.dcmp x y) op) :: st)) : bz_G l E M R L0 z0 Fn sz k n L g pc lv (.double y :: .double x :: st) := by
  subst hq
  intro p e s m args below meth c H locs ls C hz hP hD hS hl
  exact lv_dcmp C.1 C.2.1 hd (kk p e s m args below meth c H locs ls C hz hP hD hS hl)
theorem g_i2f {x : Int32} (hd : decode M.2.1 pc = .ok (.i2f, 1)) (hq : pc + 1 = q) (kk : bz_G l E M R L0 z0 Fn sz k n L g q lv (.float (FP.i2f x) :: st)) : bz_G l E M R L0 z0 Fn sz k n L g pc lv (.int x :: st) := by
  subst hq
  intro p e s m args below meth c H locs ls C hz hP hD hS hl
  exact lv_i2f C.1 C.2.1 hd (kk p e s m args below meth c H locs ls C hz hP hD hS hl)
theorem g_i2d {x : Int32} (hd : decode M.2.1 pc = .ok (.i2d, 1)) (hq : pc + 1 = q) (kk : bz_G l E M R L0 z0 Fn sz k n L g q lv (.double (FP.i2d x) :: st)) : bz_G l E M R L0 z0 Fn sz k n L g pc lv (.int x :: st) := by
  subst hq
  intro p e s m args below meth c H locs ls C hz hP hD hS hl
  exact lv_i2d C.1 C.2.1 hd (kk p e s m args below meth c H locs ls C hz hP hD hS hl)
theorem g_f2i {x : UInt32} (hd : decode M.2.1 pc = .ok (.f2i, 1)) (hq : pc + 1 = q) (kk : bz_G l E M R L0 z0 Fn sz k n L g q lv (.int (FP.f2i x) :: st)) : bz_G l E M R L0 z0 Fn sz k n L g pc lv (.float x :: st) := by
  subst hq
  intro p e s m args below meth c H locs ls C hz hP hD hS hl
  exact lv_f2i C.1 C.2.1 hd (kk p e s m args below meth c H locs ls C hz hP hD hS hl)
theorem g_f2d {x : UInt32} (hd : decode M.2.1 pc = .ok (.f2d, 1)) (hq : pc + 1 = q) (hne : vf_n64 (FP.f2d x)) (kk : bz_G l E M R L0 z0 Fn sz k n L g q lv (.double (FP.f2d x) :: st)) : bz_G l E M R L0 z0 Fn sz k n L g pc lv (.float x :: st) := by
  subst hq
  intro p e s m args below meth c H locs ls C hz hP hD hS hl
  exact lv_f2d C.1 C.2.1 hd hne (kk p e s m args below meth c H locs ls C hz hP hD hS hl)
theorem g_eqf {x v : UInt32} (h : x = v) (kk : bz_G l E M R L0 z0 Fn sz k n L g pc lv (.float v :: st)) : bz_G l E M R L0 z0 Fn sz k n L g pc lv (.float x :: st) := by subst h; exact kk
end GF
