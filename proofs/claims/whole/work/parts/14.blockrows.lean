section GB
variable {l : Launch} {E : bz_E} {M : bz_M} {R : Room} {L0 : List Nat} {z0 : Nat} {Fn : bz_F} {sz k n : Nat} {L : List Nat} {g0 g : Nat → va_E} {pc q : Nat} {lv : List (Nat × Value)} {st : List Value} {bs : bz_L} {j o i a : Nat} {es : List va_E}
theorem gb_getf {idx ci x : Nat} {fs : List Value} {v : Value} (hd : decode M.2.1 pc = .ok (.getfield idx, 3)) (hq : pc + 3 = q) (hf : bz_fl M.1.cls idx ci x) (hB : bz_B L g0 g bs) (hb : bs[j]? = some (o, es)) (he : es[i]? = some (.inr (ci, fs))) (ha : a = o + i) (hv : fs[x]? = some v) (kk : bz_G l E M R L0 z0 Fn sz k n L g q lv (v :: st)) : bz_G l E M R L0 z0 Fn sz k n L g pc lv (.ref a :: st) := by
  subst ha
  exact g_getf hd hq hf (hB.1.at hb i _ he).1 (hB.1.at hb i _ he).2 hv kk
theorem gb_putf {idx ci x : Nat} {ty : FieldType} {fs : List Value} {v : Value} (hd : decode M.2.1 pc = .ok (.putfield idx, 3)) (hq : pc + 3 = q) (hf : bz_fp M.1.cls idx ci x false ty) (hB : bz_B L g0 g bs) (hb : bs[j]? = some (o, es)) (he : es[i]? = some (.inr (ci, fs))) (ha : a = o + i) (hl0 : x < fs.length) (hn : narrow ty v = v) (hfit : fits ty v = true) (kk : ∀ g1 : Nat → va_E, bz_B L g0 g1 (bs.set j (o, es.set i (.inr (ci, fs.set x v)))) → bz_G l E M R L0 z0 Fn sz k n L g1 q lv st) : bz_G l E M R L0 z0 Fn sz k n L g pc lv (v :: .ref a :: st) := by
  subst ha
  exact g_putf hd hq hf (hB.1.at hb i _ he).1 (hB.1.at hb i _ he).2 hl0 hn hfit (kk _ (hB.up hb (List.getElem?_eq_some_iff.mp he).1 _))
theorem gb_alen {t0 N : Nat} {x : (Nat → Int32) ⊕ (Nat → Int64) ⊕ (Nat → UInt32) ⊕ (Nat → UInt64) ⊕ (Nat → Option Nat)} {ty : FieldType} {cA : ClassId} (hd : decode M.2.1 pc = .ok (.arraylength, 1)) (hq : pc + 1 = q) (hB : bz_B L g0 g bs) (hb : bs[j]? = some (o, es)) (he : es[i]? = some (.inl (cA, N, x))) (ha : a = o + i) (ht : (bz_tys E)[t0]? = some (cA, ty)) (kk : bz_G l E M R L0 z0 Fn sz k n L g q lv (.int (nI N) :: st)) : bz_G l E M R L0 z0 Fn sz k n L g pc lv (.ref a :: st) := by
  subst ha
  exact g_alen hd hq (hB.1.at hb i _ he).1 (hB.1.at hb i _ he).2 ht rfl kk
theorem gb_iald {N : Nat} {f : Nat → Int32} {x : Int32} (hd : decode M.2.1 pc = .ok (.iaload, 1)) (hq : pc + 1 = q) (hB : bz_B L g0 g bs) (hb : bs[j]? = some (o, es)) (he : es[i]? = some (.inl (E.1.1 21, N, .inl f))) (ha : a = o + i) (hin : vp_in x N) (kk : bz_G l E M R L0 z0 Fn sz k n L g q lv (.int (f x.toNatClampNeg) :: st)) : bz_G l E M R L0 z0 Fn sz k n L g pc lv (.int x :: .ref a :: st) := by
  subst ha
  exact g_iald hd hq (hB.1.at hb i _ he).1 (hB.1.at hb i _ he).2 hin kk
theorem gb_bald {N : Nat} {f : Nat → Int32} {x : Int32} (hd : decode M.2.1 pc = .ok (.baload, 1)) (hq : pc + 1 = q) (hB : bz_B L g0 g bs) (hb : bs[j]? = some (o, es)) (he : es[i]? = some (.inl (E.1.1 20, N, .inl f))) (ha : a = o + i) (hin : vp_in x N) (kk : bz_G l E M R L0 z0 Fn sz k n L g q lv (.int (f x.toNatClampNeg) :: st)) : bz_G l E M R L0 z0 Fn sz k n L g pc lv (.int x :: .ref a :: st) := by
  subst ha
  exact g_bald hd hq (hB.1.at hb i _ he).1 (hB.1.at hb i _ he).2 hin kk
theorem gb_zald {N : Nat} {f : Nat → Int32} {x : Int32} (hd : decode M.2.1 pc = .ok (.baload, 1)) (hq : pc + 1 = q) (hB : bz_B L g0 g bs) (hb : bs[j]? = some (o, es)) (he : es[i]? = some (.inl (E.1.1 22, N, .inl f))) (ha : a = o + i) (hin : vp_in x N) (kk : bz_G l E M R L0 z0 Fn sz k n L g q lv (.int (f x.toNatClampNeg) :: st)) : bz_G l E M R L0 z0 Fn sz k n L g pc lv (.int x :: .ref a :: st) := by
  subst ha
  exact g_zald hd hq (hB.1.at hb i _ he).1 (hB.1.at hb i _ he).2 hin kk
theorem gb_lald {N : Nat} {f : Nat → Int64} {x : Int32} (hd : decode M.2.1 pc = .ok (.laload, 1)) (hq : pc + 1 = q) (hB : bz_B L g0 g bs) (hb : bs[j]? = some (o, es)) (he : es[i]? = some (.inl (E.1.1 24, N, .inr (.inl f)))) (ha : a = o + i) (hin : vp_in x N) (kk : bz_G l E M R L0 z0 Fn sz k n L g q lv (.long (f x.toNatClampNeg) :: st)) : bz_G l E M R L0 z0 Fn sz k n L g pc lv (.int x :: .ref a :: st) := by
  subst ha
  exact g_lald hd hq (hB.1.at hb i _ he).1 (hB.1.at hb i _ he).2 hin kk
theorem gb_dald {N : Nat} {f : Nat → UInt64} {x : Int32} (hd : decode M.2.1 pc = .ok (.daload, 1)) (hq : pc + 1 = q) (hB : bz_B L g0 g bs) (hb : bs[j]? = some (o, es)) (he : es[i]? = some (.inl (E.1.1 25, N, .inr (.inr (.inr (.inl f)))))) (ha : a = o + i) (hin : vp_in x N) (kk : bz_G l E M R L0 z0 Fn sz k n L g q lv (.double (f x.toNatClampNeg) :: st)) : bz_G l E M R L0 z0 Fn sz k n L g pc lv (.int x :: .ref a :: st) := by
  subst ha
  exact g_dald hd hq (hB.1.at hb i _ he).1 (hB.1.at hb i _ he).2 hin kk
theorem gb_aald {N : Nat} {f : Nat → Option Nat} {x : Int32} (hd : decode M.2.1 pc = .ok (.aaload, 1)) (hq : pc + 1 = q) (hB : bz_B L g0 g bs) (hb : bs[j]? = some (o, es)) (he : es[i]? = some (.inl (E.1.1 23, N, .inr (.inr (.inr (.inr f)))))) (ha : a = o + i) (hin : vp_in x N) (kk : bz_G l E M R L0 z0 Fn sz k n L g q lv (va_rf (f x.toNatClampNeg) :: st)) : bz_G l E M R L0 z0 Fn sz k n L g pc lv (.int x :: .ref a :: st) := by
  subst ha
  exact g_aald hd hq (hB.1.at hb i _ he).1 (hB.1.at hb i _ he).2 hin kk
theorem gb_iast {N : Nat} {f : Nat → Int32} {y : Int32} {x : Int32} (hd : decode M.2.1 pc = .ok (.iastore, 1)) (hq : pc + 1 = q) (hB : bz_B L g0 g bs) (hb : bs[j]? = some (o, es)) (he : es[i]? = some (.inl (E.1.1 21, N, .inl f))) (ha : a = o + i) (hin : vp_in y N) (kk : ∀ g1 : Nat → va_E, bz_B L g0 g1 (bs.set j (o, es.set i (.inl (E.1.1 21, N, .inl (upd f y.toNatClampNeg x))))) → bz_G l E M R L0 z0 Fn sz k n L g1 q lv st) : bz_G l E M R L0 z0 Fn sz k n L g pc lv (.int x :: .int y :: .ref a :: st) := by
  subst ha
  exact g_iast hd hq (hB.1.at hb i _ he).1 (hB.1.at hb i _ he).2 hin (kk _ (hB.up hb (List.getElem?_eq_some_iff.mp he).1 _))
theorem gb_bast {N : Nat} {f : Nat → Int32} {y : Int32} {x : Int32} (hd : decode M.2.1 pc = .ok (.bastore, 1)) (hq : pc + 1 = q) (hB : bz_B L g0 g bs) (hb : bs[j]? = some (o, es)) (he : es[i]? = some (.inl (E.1.1 20, N, .inl f))) (ha : a = o + i) (hin : vp_in y N) (kk : ∀ g1 : Nat → va_E, bz_B L g0 g1 (bs.set j (o, es.set i (.inl (E.1.1 20, N, .inl (upd f y.toNatClampNeg (vp_nar .byte x)))))) → bz_G l E M R L0 z0 Fn sz k n L g1 q lv st) : bz_G l E M R L0 z0 Fn sz k n L g pc lv (.int x :: .int y :: .ref a :: st) := by
  subst ha
  exact g_bast hd hq (hB.1.at hb i _ he).1 (hB.1.at hb i _ he).2 hin (kk _ (hB.up hb (List.getElem?_eq_some_iff.mp he).1 _))
theorem gb_zast {N : Nat} {f : Nat → Int32} {y : Int32} {x : Int32} (hd : decode M.2.1 pc = .ok (.bastore, 1)) (hq : pc + 1 = q) (hB : bz_B L g0 g bs) (hb : bs[j]? = some (o, es)) (he : es[i]? = some (.inl (E.1.1 22, N, .inl f))) (ha : a = o + i) (hin : vp_in y N) (kk : ∀ g1 : Nat → va_E, bz_B L g0 g1 (bs.set j (o, es.set i (.inl (E.1.1 22, N, .inl (upd f y.toNatClampNeg (vp_nar .boolean x)))))) → bz_G l E M R L0 z0 Fn sz k n L g1 q lv st) : bz_G l E M R L0 z0 Fn sz k n L g pc lv (.int x :: .int y :: .ref a :: st) := by
  subst ha
  exact g_zast hd hq (hB.1.at hb i _ he).1 (hB.1.at hb i _ he).2 hin (kk _ (hB.up hb (List.getElem?_eq_some_iff.mp he).1 _))
theorem gb_last {N : Nat} {f : Nat → Int64} {y : Int32} {x : Int64} (hd : decode M.2.1 pc = .ok (.lastore, 1)) (hq : pc + 1 = q) (hB : bz_B L g0 g bs) (hb : bs[j]? = some (o, es)) (he : es[i]? = some (.inl (E.1.1 24, N, .inr (.inl f)))) (ha : a = o + i) (hin : vp_in y N) (kk : ∀ g1 : Nat → va_E, bz_B L g0 g1 (bs.set j (o, es.set i (.inl (E.1.1 24, N, .inr (.inl (vp_updL f y.toNatClampNeg x)))))) → bz_G l E M R L0 z0 Fn sz k n L g1 q lv st) : bz_G l E M R L0 z0 Fn sz k n L g pc lv (.long x :: .int y :: .ref a :: st) := by
  subst ha
  exact g_last hd hq (hB.1.at hb i _ he).1 (hB.1.at hb i _ he).2 hin (kk _ (hB.up hb (List.getElem?_eq_some_iff.mp he).1 _))
theorem gb_dast {N : Nat} {f : Nat → UInt64} {y : Int32} {x : UInt64} (hd : decode M.2.1 pc = .ok (.dastore, 1)) (hq : pc + 1 = q) (hB : bz_B L g0 g bs) (hb : bs[j]? = some (o, es)) (he : es[i]? = some (.inl (E.1.1 25, N, .inr (.inr (.inr (.inl f)))))) (ha : a = o + i) (hin : vp_in y N) (kk : ∀ g1 : Nat → va_E, bz_B L g0 g1 (bs.set j (o, es.set i (.inl (E.1.1 25, N, .inr (.inr (.inr (.inl (va_up f y.toNatClampNeg x)))))))) → bz_G l E M R L0 z0 Fn sz k n L g1 q lv st) : bz_G l E M R L0 z0 Fn sz k n L g pc lv (.double x :: .int y :: .ref a :: st) := by
  subst ha
  exact g_dast hd hq (hB.1.at hb i _ he).1 (hB.1.at hb i _ he).2 hin (kk _ (hB.up hb (List.getElem?_eq_some_iff.mp he).1 _))
end GB
section GC
variable {l : Launch} {E : bz_E} {M : bz_M} {d mc ms : Nat} {L0 : List Nat} {z0 : Nat} {Fn : bz_F} {sz k n : Nat} {L : List Nat} {g0 g : Nat → va_E} {pc q : Nat} {lv : List (Nat × Value)} {st : List Value} {bs : bz_L} {j o i b : Nat} {es : List va_E}
theorem gb_callV {M2 : bz_M} {d2 idx ci N : Nat} {fs As rest : List Value} {Q2 : Option Value → (Nat → va_E) → Prop} (hd : decode M.2.1 pc = .ok (.invokevirtual idx, 3)) (hq : pc + 3 = q) (hk : bz_kv M.1.cls idx M2 ci N) (hK : bz_K l E M2 d2 (.ref b :: As) L g Q2) (hN : As.length = N) (hdd : d2 < d) (hB : bz_B L g0 g bs) (hb : bs[j]? = some (o, es)) (he : es[i]? = some (.inr (ci, fs))) (ha : b = o + i) (hst : st = As.reverse ++ .ref b :: rest) (hr : (rest.map fun v => v.category).sum ≤ 8)
    (hkc : k + 0 ≤ (bz_R d mc ms).cells) (hns : n + 0 ≤ (bz_R d mc ms).slots)
    (kk : ∀ (r : Option Value) (g1 : Nat → va_E), Q2 r g1 → bz_G l E M (bz_R d mc ms) L0 z0 Fn sz k n L g1 q lv (r.toList ++ rest)) : bz_G l E M (bz_R d mc ms) L0 z0 Fn sz k n L g pc lv st := by
  subst ha
  exact g_callV hd hq hk hN hK hdd (hB.1.at hb i _ he).1 (hB.1.at hb i _ he).2 hst hr hkc hns kk
end GC
theorem bz_vi {x : Int32} {N : Nat} (h0 : ¬ x < 0) (h1 : ¬ nI N ≤ x) (hN : N < 2 ^ 31) : vp_in x N := by
  intro h
  rcases h with h | h
  · exact h0 h
  · refine h1 ?_
    have hx : 0 ≤ x.toInt := by
      have := Int32.not_lt.mp h0
      simpa using Int32.le_iff_toInt_le.mp this
    rw [Int32.le_iff_toInt_le, nI_toInt hN]
    have : x.toNatClampNeg = x.toInt.toNat := rfl
    omega
theorem bz_vn {m N : Nat} (h : m < N) (hN : N < 2 ^ 31) : vp_in (nI m) N := vp_in_nI h hN
