/-! CONSTRUCTORS: History, the class, the reference -/
section GF
variable {l : Launch} {E : bz_E} {M : bz_M} {R : Room} {L0 : List Nat} {z0 : Nat} {Fn : bz_F} {sz k n : Nat} {L : List Nat} {g : Nat → va_E} {pc q : Nat} {lv : List (Nat × Value)} {st : List Value}
theorem g_anew {idx N : Nat} (hd : decode M.2.1 pc = .ok (.anewarray idx, 3)) (hq : pc + 3 = q) (hcl : Cond.classLink M.1.cls idx "BusBridge$Situation" ∈ bz_tbl) (hN : N < 100000) (hk : k + 1 ≤ R.cells) (hn : n + N ≤ R.slots)
    (kk : bz_G l E M R L0 z0 Fn (sz + 1) (k + 1) (n + N) (L ++ [sz]) (va_up g sz (.inl (E.1.1 23, N, .inr (.inr (.inr (.inr (fun _ => none))))))) q lv (.ref sz :: st)) : bz_G l E M R L0 z0 Fn sz k n L g pc lv (.int (nI N) :: st) := by
  subst hq
  intro p e s m args below meth c H locs ls C hz hP hD hS hl
  subst hz
  have hts := C.2.2.2.2.2.1
  have hc : (nI N).toNatClampNeg = N := nI_clamp (by omega)
  refine W.anew C.1 C.2.1 C.2.2.2.2.1 (hts _ hcl) (va_AO.use C.2.2.2.2.2.2.2.2.2.2.2.1.2.2.2.2.2.2.2.1) rfl hd rfl (nI_pos (by omega)) (by rw [hc]; omega) hk (by rw [hc]; exact hn) (fun cA kA comp f1 f2 f3 f4 => ?_)
  rw [hc]
  obtain ⟨-, -, -, -, -, h5⟩ := (C.2.2.2.2.2.2.1.2 3 _ rfl).2
  have hcA : cA = E.1.1 23 := Option.some.inj (f1.symm.trans h5)
  subst hcA
  generalize hH1 : H.push ({ cls := E.1.1 23, slots := Array.replicate N .null, vm := .none } : Cell) = H1
  have z1 : H1.size = H.size + 1 := by rw [← hH1, Array.size_push]
  have e1 : H1[H.size]? = some (arrV (E.1.1 23) N (fun _ => .null)) := by rw [← hH1, Array.getElem?_push_size, ← arrV_new]
  have o1 : ∀ q : Nat, q < H.size → H1[q]? = H[q]? := fun q hq => by rw [← hH1, Array.getElem?_push, if_neg (Nat.ne_of_lt hq)]
  obtain ⟨p1, p2, p3⟩ := bz_grow (x := .inl (E.1.1 23, N, .inr (.inr (.inr (.inr (fun _ => none)))))) (fun q h => Or.inr h) hP hD hS z1 o1 (by show H1[H.size]? = some (vp_cell _ _); rw [vp_cell_q]; exact e1)
  exact kk p e s m args below meth c H1 locs ls C z1 p1 p2 p3 hl
theorem g_aast {a N v : Nat} {vs : List Value} {f : Nat → Option Nat} {i : Int32} (hd : decode M.2.1 pc = .ok (.aastore, 1)) (hq : pc + 1 = q) (hL : a ∈ L) (hg : g a = .inl (E.1.1 23, N, .inr (.inr (.inr (.inr f))))) (hLv : v ∈ L) (hgv : g v = .inr (5, vs)) (hin : vp_in i N)
    (kk : bz_G l E M R L0 z0 Fn sz k n L (va_up g a (.inl (E.1.1 23, N, .inr (.inr (.inr (.inr (va_up f i.toNatClampNeg (some v)))))))) q lv st) : bz_G l E M R L0 z0 Fn sz k n L g pc lv (.ref v :: .int i :: .ref a :: st) := by
  subst hq
  intro p e s m args below meth c H locs ls C hz hP hD hS hl
  obtain ⟨j, hj⟩ := bz_at hL hg
  obtain ⟨jv, hjv⟩ := bz_at hLv hgv
  have hlt : i.toNatClampNeg < N := Nat.not_le.mp fun q => hin (Or.inr q)
  have h0 : ¬ i < 0 := fun q => hin (Or.inl q)
  obtain ⟨r', hr', cellV, g1, g2, g3, -⟩ := hP jv _ hjv
  have hcls := (C.2.2.2.2.2.2.1.1 5 _ rfl).2
  obtain ⟨kA, comp, k1, k2, k3, -⟩ := (C.2.2.2.2.2.2.1.2 3 _ rfl).2
  have hcomp : comp = E.1.1 5 := Option.some.inj (k3.symm.trans hcls.1)
  subst hcomp
  have hcls2 := hcls
  obtain ⟨kC, hkC, -⟩ := hcls.2
  refine W.aast C.1 C.2.1 (hP j _ hj) (fun q h => by cases h) (fun h => by cases h) k1 k2 rfl hkC ⟨h0, by show _ < (arrV _ _ _).slots.size; rw [arrV_size]; exact hlt⟩ g1 (fun q h => by rw [g3] at h; cases h) (by rw [g2]; exact hkC) (by rw [g2]; exact va_assign hcls2) rfl rfl hd (fun H1 e1 z1 o1 => ?_)
  have he : va_at E.1 bz_Cl (a, .inl (E.1.1 23, N, .inr (.inr (.inr (.inr (va_up f i.toNatClampNeg (some v))))))) H1 := by
    show H1[a]? = some (vp_cell _ _)
    rw [e1]
    rw [vp_cell_q, vp_cell_q, arrV_store]
    congr 2
    funext y
    by_cases hy : y = i.toNatClampNeg
    · subst hy
      simp [updV, va_up, va_rf]
    · simp [updV, va_up, hy]
  obtain ⟨hP1, hD1⟩ := bz_kk hP hD hL hg hj he o1
  exact kk p e s m args below meth c H1 _ ls C (z1.trans hz) hP1 hD1 (hS.put z1 o1 (hD.2 j _ hj)) hl
end GF
section GG
variable {l : Launch} {E : bz_E} {M : bz_M} {R : Room} {L0 : List Nat} {z0 : Nat} {Fn : bz_F} {k n : Nat} {L : List Nat} {g0 g : Nat → va_E} {pc q : Nat} {lv : List (Nat × Value)} {st : List Value} {a j : Nat} {es : List va_E}
theorem gi_anew {idx N : Nat} (hC : ci_S L g0 a j es g) (hd : decode M.2.1 pc = .ok (.anewarray idx, 3)) (hq : pc + 3 = q) (hcl : Cond.classLink M.1.cls idx "BusBridge$Situation" ∈ bz_tbl) (hN : N < 100000) (hk : k + 1 ≤ R.cells) (hn : n + N ≤ R.slots)
    (kk : ∀ g1 : Nat → va_E, ci_S L g0 a (j + 1) (es ++ [.inl (E.1.1 23, N, .inr (.inr (.inr (.inr (fun _ => none)))))]) g1 → bz_G l E M R L0 z0 Fn (a + 1 + (j + 1)) (k + 1) (n + N) (bz_pool L a (j + 1)) g1 q lv (.ref (a + 1 + j) :: st)) : bz_G l E M R L0 z0 Fn (a + 1 + j) k n (bz_pool L a j) g pc lv (.int (nI N) :: st) := by
  refine g_anew hd hq hcl hN hk hn ?_
  rw [← bz_pool_s]
  exact kk _ hC.grow
theorem gi_aast {i iv b v N x : Nat} {vs : List Value} {f : Nat → Option Nat} (hC : ci_S L g0 a j es g) (hd : decode M.2.1 pc = .ok (.aastore, 1)) (hq : pc + 1 = q) (he : es[i]? = some (.inl (E.1.1 23, N, .inr (.inr (.inr (.inr f)))))) (hb : b = a + i) (hv : es[iv]? = some (.inr (5, vs))) (hb2 : v = a + iv) (hm : x < N) (hN : N < 2 ^ 31)
    (kk : ∀ g1 : Nat → va_E, ci_S L g0 a j (es.set i (.inl (E.1.1 23, N, .inr (.inr (.inr (.inr (va_up f x (some v)))))))) g1 → bz_G l E M R L0 z0 Fn (a + 1 + j) k n (bz_pool L a j) g1 q lv st) : bz_G l E M R L0 z0 Fn (a + 1 + j) k n (bz_pool L a j) g pc lv (.ref v :: .int (nI x) :: .ref b :: st) := by
  subst hb
  subst hb2
  refine g_aast hd hq (hC.2.1 i _ he).1 (hC.2.1 i _ he).2 (hC.2.1 iv _ hv).1 (hC.2.1 iv _ hv).2 (bz_vn hm hN) ?_
  rw [nI_clamp (by omega)]
  exact kk _ (hC.put (List.getElem?_eq_some_iff.mp he).1)
theorem gi_getf {idx ci x i : Nat} {fs : List Value} {v : Value} {b : Nat} (hC : ci_S L g0 a j es g) (hd : decode M.2.1 pc = .ok (.getfield idx, 3)) (hq : pc + 3 = q) (hf : bz_fl M.1.cls idx ci x) (he : es[i]? = some (.inr (ci, fs))) (ha : b = a + i) (hv : fs[x]? = some v) (kk : bz_G l E M R L0 z0 Fn (a + 1 + j) k n (bz_pool L a j) g q lv (v :: st)) : bz_G l E M R L0 z0 Fn (a + 1 + j) k n (bz_pool L a j) g pc lv (.ref b :: st) := by
  subst ha
  exact g_getf hd hq hf (hC.2.1 i _ he).1 (hC.2.1 i _ he).2 hv kk
end GG
/-- the ten situations of the history -/
def h_S (E : bz_E) (a : Nat) : Nat → List va_E
  | 0 => []
  | i + 1 => h_S E a i ++ b_Sit E (a + 1 + (1 + 27 * i)) ci_SR
theorem h_S_len (E : bz_E) (a : Nat) : ∀ i, (h_S E a i).length = 27 * i
  | 0 => rfl
  | i + 1 => by show (h_S E a i ++ _).length = _; rw [List.length_append, h_S_len E a i]; show 27 * i + 27 = _; omega
def h_f (a i : Nat) : Nat → Option Nat := fun x => if x < i then some (a + 1 + (1 + 27 * x)) else none
theorem h_f_0 (a : Nat) : h_f a 0 = fun _ => none := rfl
theorem h_f_s (a i : Nat) : va_up (h_f a i) i (some (a + 1 + (1 + 27 * i))) = h_f a (i + 1) := by
  funext x
  unfold va_up h_f
  by_cases h : x = i
  · subst h; rw [if_pos rfl, if_pos (by omega)]
  · rw [if_neg h]
    by_cases h2 : x < i
    · rw [if_pos h2, if_pos (by omega)]
    · rw [if_neg h2, if_neg (by omega)]
def h_E (E : bz_E) (a i : Nat) : List va_E := b_Hist E a (h_f a i) 0 0 ++ h_S E a i

set_option maxRecDepth 20000 in
set_option maxHeartbeats 2000000 in
theorem ci_X1_15 {l : Launch} {E : bz_E} {L : List Nat} {a : Nat} {g0 : Nat → va_E} : ∀ (r i : Nat) (g : Nat → va_E) (lv : List (Nat × Value)), i + r = 10 → lv = [(1, .int (nI i)), (0, .ref a)] → ci_S L g0 a (1 + 27 * i) (h_E E a i) g → bz_G l E mX1_init (bz_R 4 271 16070) L (a + 1) (bz_FmI E L a 271 16070 (ci_S L g0 a 271 (h_E E a 10))) (a + 1 + (1 + 27 * i)) (1 + 27 * i) (10 + 1606 * i) (bz_pool L a (1 + 27 * i)) g 15 lv []
  | 0, i, g, lv, hi, hlv, hC => by
    subst hlv
    have hi2 : i = 10 := by omega
    subst hi2
    refine g_iload_n (q := 16) dX1_init_15 rfl rfl ?_
    refine g_bipush (q := 18) (v := (nI 10)) dX1_init_16 rfl (by decide) ?_
    refine g_icmpN_ge (q := 21) (t := 40) dX1_init_18 rfl (by decide) (by omega) (by omega) (fun _ => ?_) (fun c => absurd c (by omega))
    exact gi_ret dX1_init_40 rfl rfl rfl hC
  | r + 1, i, g, lv, hi, hlv, hC => by
    subst hlv
    refine g_iload_n (q := 16) dX1_init_15 rfl rfl ?_
    refine g_bipush (q := 18) (v := (nI 10)) dX1_init_16 rfl (by decide) ?_
    refine g_icmpN_ge (q := 21) (t := 40) dX1_init_18 rfl (by decide) (by omega) (by omega) (fun c => absurd c (by omega)) (fun _ => ?_)
    refine g_aload_n (q := 22) dX1_init_21 rfl rfl ?_
    refine gi_getf (q := 25) (i := 0) hC dX1_init_22 rfl fl_X1_11 rfl rfl rfl ?_
    refine g_iload_n (q := 26) dX1_init_25 rfl rfl ?_
    refine gi_new (q := 29) (ci := 5) (fs := [.int 0, .int 0, .null, .null]) hC dX1_init_26 rfl rfl inX5 tyX5_ok (bz_mw 324 (by decide +kernel)) (bz_mw 223 (by decide +kernel)) (bz_mw 87 (by decide +kernel)) (fun j hj => by rcases (show j = 0 ∨ j = 1 ∨ j = 2 ∨ j = 3 by omega) with rfl | rfl | rfl | rfl <;> rfl) (by show 1 + 27 * i + 1 ≤ 271; omega) (by show 10 + 1606 * i + 4 ≤ 16070; omega) (fun g hC => ?_)
    refine g_dup (q := 30) dX1_init_29 rfl rfl ?_
    refine gi_sub (q := 33) (mc2 := 26) (ms2 := 1602) hC dX1_init_30 rfl ⟨kd_X5_init, Or.inr (by decide +kernel), (bz_mw 225 (by decide +kernel)), rfl, rfl⟩ (ci_X5 (ci_last hC)) (by decide) (by decide) rfl (bz_le rfl) (by show 1 + 27 * i + 1 + 26 ≤ 271; omega) (by show 10 + 1606 * i + 4 + 1602 ≤ 16070; omega) (fun g hC => ?_)
    have hlen : (h_E E a i).length = 2 + 27 * i := by unfold h_E; rw [List.length_append, h_S_len]; rfl
    refine gi_aast (q := 34) (i := 1) (iv := 2 + 27 * i) (x := i) (N := 10) (f := h_f a i) (vs := [.int 0, .int 0, .ref (a + 1 + (1 + 27 * i) + 1), .ref (a + 1 + (1 + 27 * i) + 14)]) hC dX1_init_33 rfl rfl rfl (by rw [List.getElem?_append_right (by omega), hlen, Nat.sub_self]; rfl) (by omega) (by omega) (by omega) (fun g hC => ?_)
    have hE2 : (h_E E a i ++ b_Sit E (a + 1 + (1 + 27 * i)) ci_SR).set 1 (.inl (E.1.1 23, 10, .inr (.inr (.inr (.inr (va_up (h_f a i) i (some (a + 1 + (1 + 27 * i))))))))) = h_E E a (i + 1) := by
      rw [h_f_s]
      show b_Hist E a (h_f a (i + 1)) 0 0 ++ h_S E a i ++ _ = _
      rw [List.append_assoc]
      rfl
    rw [hE2] at hC
    refine g_iincN (q := 37) (c := 1) dX1_init_34 rfl (bz_le rfl) rfl rfl (by decide) ?_
    refine g_goto (q := 15) dX1_init_37 (by decide) ?_
    refine g_lvs (lv1 := [(1, .int (nI (i + 1))), (0, .ref a)]) ⟨rfl, rfl, trivial⟩ ?_
    have := ci_X1_15 (l := l) r (i + 1) g _ (by omega) rfl (by rw [show 1 + 27 * (i + 1) = 1 + 27 * i + 1 + 26 by omega]; exact hC)
    rw [show 1 + 27 * (i + 1) = 1 + 27 * i + 1 + 26 by omega, show 10 + 1606 * (i + 1) = 10 + 1606 * i + 4 + 1602 by omega] at this
    exact this

set_option maxRecDepth 20000 in
set_option maxHeartbeats 2000000 in
theorem ci_X1 {l : Launch} {E : bz_E} {L : List Nat} {g : Nat → va_E} {a : Nat} (hH : bz_H L g a [.inr (1, [.null, .int 0, .int 0])]) : bz_KI l E mX1_init 4 271 16070 a L g (ci_S L g a 271 (h_E E a 10)) := by
  refine bz_KI.of (by decide) (by decide) ?_
  have hC : ci_S L g a 0 [.inr (1, [.null, .int 0, .int 0])] g := ⟨rfl, by rw [bz_pool_0]; exact hH, fun _ _ => rfl⟩
  refine g_aload_n (q := 1) dX1_init_0 rfl rfl ?_
  refine g_objI (q := 4) dX1_init_1 rfl (bz_mw 323 (by decide +kernel)) (by decide) (bz_le rfl) ?_
  refine g_aload_n (q := 5) dX1_init_4 rfl rfl ?_
  refine g_bipush (q := 7) (v := (nI 10)) dX1_init_5 rfl (by decide) ?_
  refine gi_anew (q := 10) hC dX1_init_7 rfl (bz_mw 324 (by decide +kernel)) (by decide) (bz_le rfl) (bz_le rfl) (fun g hC => ?_)
  refine gi_putF (q := 13) (i := 0) hC dX1_init_10 rfl fp_X1_11 rfl rfl rfl (bz_le rfl) rfl rfl (fun g hC => ?_)
  refine g_iconst (q := 14) (v := (nI 0)) dX1_init_13 rfl (by decide) ?_
  refine g_istore_n (q := 15) rfl dX1_init_14 rfl (bz_le rfl) rfl ?_
  exact ci_X1_15 10 0 g _ rfl rfl hC

