theorem g_throw {l : Launch} {E : bz_E} {M : bz_M} {d : Nat} {L : List Nat} {g : Nat → va_E} {sz pc ik is ic i : Nat} {X tx : String} {lv : List (Nat × Value)} {st : List Value} (hl : l.stackTraces = false) (hM : M.1.cls = RX8) (hT : bz_hh M = some []) (hd6 : 6 ≤ d) (htx : bz_tx ic X) (hk : Cond.classLink RX8 ik X ∈ bz_tbl) (hs : (M.1.cls, is, tx, i) ∈ bz_str) (hst : (st.map fun v => v.category).sum ≤ 8)
    (d0 : decode M.2.1 pc = .ok (.new ik, 3)) (d3 : decode M.2.1 (pc + 3) = .ok (.dup, 1)) (d4 : decode M.2.1 (pc + 4) = .ok (.ldc is, 2)) (d6 : decode M.2.1 (pc + 6) = .ok (.invokespecial ic, 3)) (d9 : decode M.2.1 (pc + 9) = .ok (.athrow, 1)) :
    bz_G l E M (bz_R d 1 6) L sz (bz_Fx E L g sz X) sz 0 0 L g pc lv st := by
  intro p e s m args below meth c H locs ls C hz hP hD hS hl0
  have hts := C.2.2.2.2.2.1
  have hY := C.2.2.2.2.2.2.2.2.2.2.2.1.2.2
  have hout : ∀ x ∈ c.exceptionTable.toList, covers x (pc + 9) = false := fun x hx => by
    rw [C.2.2.2.2.2.2.2.2.2.2.2.2 _ hT] at hx
    cases hx
  obtain ⟨t1, t2, t3, t4, t5, t6⟩ := htx
  have hat : ∀ w ∈ vx_atS RX8 ic X bz_nm, w.before args s = true := fun w hw => by
    by_cases hg : goodWord w = true
    · exact hts w (t1 w (List.mem_filter.mpr ⟨hw, hg⟩))
    · rcases t2 w (List.mem_filter.mpr ⟨hw, by simpa using hg⟩) with e | e
      · rw [e]; exact va_tabs rfl rfl (hY.2.2.2.2.2.2.1 X t5)
      · obtain ⟨x, hx, e⟩ := List.mem_map.mp e
        rw [← e]; exact va_tabs rfl rfl (hY.2.2.2.2.2.2.2 x hx)
  have hgood : ∀ w ∈ Cond.classLink RX8 ik X :: Cond.initialized X :: vx_atS RX8 ic X bz_nm, vx_ot w = true := fun w hw => by
    rcases List.mem_cons.mp hw with e | hw
    · rw [e]; rfl
    · rcases List.mem_cons.mp hw with e | hw
      · rw [e]; rfl
      · exact List.all_eq_true.mp t3 w hw
  refine vx_throwS (own := RX8) (cls := X) (names := bz_nm) (sa := E.2.1 i) C.1 C.2.1 hl (by rw [← hM]; exact C.2.2.2.2.1) t4 (by decide) (hts _ hk) (hts _ t6) (by rw [← hM]; exact C.2.2.2.2.2.2.2.2.2.2.2.1.2.1 _ hs) hat hgood hY.2.2.1 hY.2.2.2.1 hS (hl0.1.trans C.2.2.2.1.symm) d0 d3 d4 d6 d9 hout ?_ ?_ (by show 0 + 1 ≤ 1; omega) (by show 0 + 6 ≤ 6; omega) C.2.2.2.2.2.2.2.1 (fun t _ h2 h3 => ⟨rfl, by rw [← hz]; exact h2, hP.kept (fun k x hx => h3 _ ((hP k x hx).lt)), fun q hq hn => ?_⟩) (bz_fr hS C.2.2.2.2.2.2.2.2.2.1) (by omega) (by omega)
  · show 2 + 3 < d; omega
  · show _ + (13 * (2 + 1) + 43) ≤ 64 * d; omega
  · rw [h3 q (Nat.lt_of_lt_of_le hq hS.1)]
    exact hS.2.1 q hq (fun h => h.elim hn (fun h => by omega))
theorem g_throwW {l : Launch} {E : bz_E} {M : bz_M} {d : Nat} {L : List Nat} {g : Nat → va_E} {sz pc ik is ic i : Nat} {X tx : String} {lv : List (Nat × Value)} {st : List Value} (hl : l.stackTraces = false) (hM : M.1.cls = RX8) (hT : bz_hh M = some []) (hd6 : 6 ≤ d) (htx : bz_tx ic X) (hk : Cond.classLink RX8 ik X ∈ bz_tbl) (hs : (M.1.cls, is, tx, i) ∈ bz_str) (hst : (st.map fun v => v.category).sum ≤ 8)
    (d0 : decode M.2.1 pc = .ok (.new ik, 3)) (d3 : decode M.2.1 (pc + 3) = .ok (.dup, 1)) (d4 : decode M.2.1 (pc + 4) = .ok (.ldc_w is, 3)) (d6 : decode M.2.1 (pc + 7) = .ok (.invokespecial ic, 3)) (d9 : decode M.2.1 (pc + 10) = .ok (.athrow, 1)) :
    bz_G l E M (bz_R d 1 6) L sz (bz_Fx E L g sz X) sz 0 0 L g pc lv st := by
  intro p e s m args below meth c H locs ls C hz hP hD hS hl0
  have hts := C.2.2.2.2.2.1
  have hY := C.2.2.2.2.2.2.2.2.2.2.2.1.2.2
  have hout : ∀ x ∈ c.exceptionTable.toList, covers x (pc + 10) = false := fun x hx => by
    rw [C.2.2.2.2.2.2.2.2.2.2.2.2 _ hT] at hx
    cases hx
  obtain ⟨t1, t2, t3, t4, t5, t6⟩ := htx
  have hat : ∀ w ∈ vx_atS RX8 ic X bz_nm, w.before args s = true := fun w hw => by
    by_cases hg : goodWord w = true
    · exact hts w (t1 w (List.mem_filter.mpr ⟨hw, hg⟩))
    · rcases t2 w (List.mem_filter.mpr ⟨hw, by simpa using hg⟩) with e | e
      · rw [e]; exact va_tabs rfl rfl (hY.2.2.2.2.2.2.1 X t5)
      · obtain ⟨x, hx, e⟩ := List.mem_map.mp e
        rw [← e]; exact va_tabs rfl rfl (hY.2.2.2.2.2.2.2 x hx)
  have hgood : ∀ w ∈ Cond.classLink RX8 ik X :: Cond.initialized X :: vx_atS RX8 ic X bz_nm, vx_ot w = true := fun w hw => by
    rcases List.mem_cons.mp hw with e | hw
    · rw [e]; rfl
    · rcases List.mem_cons.mp hw with e | hw
      · rw [e]; rfl
      · exact List.all_eq_true.mp t3 w hw
  refine vx_throwSW (own := RX8) (cls := X) (names := bz_nm) (sa := E.2.1 i) C.1 C.2.1 hl (by rw [← hM]; exact C.2.2.2.2.1) t4 (by decide) (hts _ hk) (hts _ t6) (by rw [← hM]; exact C.2.2.2.2.2.2.2.2.2.2.2.1.2.1 _ hs) hat hgood hY.2.2.1 hY.2.2.2.1 hS (hl0.1.trans C.2.2.2.1.symm) d0 d3 d4 d6 d9 hout ?_ ?_ (by show 0 + 1 ≤ 1; omega) (by show 0 + 6 ≤ 6; omega) C.2.2.2.2.2.2.2.1 (fun t _ h2 h3 => ⟨rfl, by rw [← hz]; exact h2, hP.kept (fun k x hx => h3 _ ((hP k x hx).lt)), fun q hq hn => ?_⟩) (bz_fr hS C.2.2.2.2.2.2.2.2.2.1) (by omega) (by omega)
  · show 2 + 3 < d; omega
  · show _ + (13 * (2 + 1) + 43) ≤ 64 * d; omega
  · rw [h3 q (Nat.lt_of_lt_of_le hq hS.1)]
    exact hS.2.1 q hq (fun h => h.elim hn (fun h => by omega))
theorem bz_rmx {d d2 N : Nat} (h : d2 < d) (hN : N ≤ 40) : (bz_R d2 1 6).frames + 1 ≤ (bz_R d 1 6).frames ∧ 8 + (N + 11) + (bz_R d2 1 6).locals ≤ (bz_R d 1 6).locals := by
  constructor
  · exact h
  · show 8 + (N + 11) + 64 * d2 ≤ 64 * d
    omega
section BX
variable {l : Launch} {E : bz_E} {M : bz_M} {d : Nat} {sz : Nat} {L : List Nat} {g : Nat → va_E} {pc : Nat} {lv : List (Nat × Value)} {st : List Value}
/-- what a callee throws goes on -/
theorem bz_thru {X : String} {p : Program} {e : Env} {s : State} {m : MethodId} {args : Array Value} {below : List Frame} {meth : Method} {c : Code} {H : Heap} {locs : List Loc} {ls : Array Slot} {rest st0 : List Value} (hT : bz_hh M = some []) (C : bz_C E M L sz p s m args meth c) (hz : H.size = sz) (hS : va_S (bz_A L s) s.heap H locs)
    (hr : vx_Run p l e (bz_R d 1 6) s m args below meth c H locs 0 0 1 6 (F0 m pc ls st0) rest (fun _ _ _ => False) (bz_XC E L g sz X) (fun q => q ∈ L ∨ sz ≤ q)) : W p l e (bz_R d 1 6) s m args below meth c H locs 0 0 (bz_Fx E L g sz X below args s) (F0 m pc ls st0) := by
  intro T hT0 XX
  rcases hr T hT0 XX with ⟨_, _, _, _, _, _, _, _, _, _, hF, _⟩ | ⟨q, st1, t, T', Ls, X', ce, h0, X2, hL, e1, e2, ⟨rfl, hx1, hx2, hx3⟩, hce, hcv, hcl, stp⟩
  · exact hF.elim
  · have hout : ∀ x ∈ c.exceptionTable.toList, covers x pc = false := fun x hx => by
      rw [C.2.2.2.2.2.2.2.2.2.2.2.2 _ hT] at hx
      cases hx
    have hfr := bz_fr hS C.2.2.2.2.2.2.2.2.2.1
    obtain ⟨t2, a1, b1⟩ := vx_out (Qc := fun _ _ _ _ => False) (XC := bz_XC E L g sz X') (free := fun q => q ∈ L ∨ sz ≤ q) (mc := 1) (ms := 6) (rest := rest) hout C.2.2.2.2.2.2.2.1 (H := t.heap) hce hcv hcl (fun t9 h9 _ => ⟨rfl, by rw [h9]; exact hx1, by rw [h9]; exact hx2, fun q hq hn => by
      rw [h9, hx3 q (by rw [h0]; exact Nat.lt_of_lt_of_le hq hS.1) hn, h0]
      exact hS.2.1 q hq (fun h => h.elim hn (fun h => by have := C.2.2.2.2.2.2.2.2.2.1; omega))⟩) (fun z hz9 => (List.mem_append.mp hz9).elim (hfr z) (hL z)) (by omega) (by omega) T' e1 X2
    exact ⟨t2, stp.trans a1, b1⟩
theorem g_callVX {M2 : bz_M} {d2 idx ci N b : Nat} {fs As rest : List Value} {X : String} (hd : decode M.2.1 pc = .ok (.invokevirtual idx, 3)) (hT : bz_hh M = some []) (hk : bz_kv M.1.cls idx M2 ci N) (hK : bz_KX l E M2 d2 (.ref b :: As) L g X) (hN : As.length = N) (hdd : d2 < d) (hL : b ∈ L) (hg : g b = .inr (ci, fs)) (hst : st = As.reverse ++ .ref b :: rest) (hr : (rest.map fun v => v.category).sum ≤ 8) : bz_G l E M (bz_R d 1 6) L sz (bz_Fx E L g sz X) sz 0 0 L g pc lv st := by
  subst hst
  intro p e s m args below meth c H locs ls C hz hP hD hS hl
  obtain ⟨⟨w1, w2, w3, w4⟩, w5, w6, w7, rC, hrC, hrn⟩ := hk
  obtain ⟨j, hj⟩ := bz_at hL hg
  have hrc := va_recv C.2.2.2.2.2.2.1 hP hrC hj
  rw [hrn] at hrc
  have hts := C.2.2.2.2.2.1
  refine bz_thru hT C hz hS (vx_runV (As := As) (rest := rest) (n := N) (index := idx) (own := M.1.cls) (C := M2.1.cls) (nL := M.2.2.1) ⟨C.1, C.2.1, C.2.2.2.1, C.2.2.2.2.1, hts⟩ (hK sz) ⟨callB_of N hts (bz_gi w1) rfl rfl rfl (hts _ w2) (hts _ w5) w3 (bz_rmx hdd w4), hts _ w6, hts _ w7⟩ ⟨bz_bl, hrc, fun U hU hW => ⟨rfl, by rw [hU]; exact hz, by rw [hU]; exact hP, va_K.moved hW.alike C.2.2.2.2.2.2.1, hD.weaken (fun _ _ _ _ => trivial), fun x hx => va_Nw.warmM hW (C.2.2.2.2.2.2.2.2.2.2.1 x hx), bz_Zt C hD hS hU hW⟩⟩ rfl hN hl.1 rfl ?_ hd ⟨Nat.le_refl _, Nat.le_refl _⟩)
  show 2 * 0 + _ ≤ 8
  omega
theorem g_callSX {M2 : bz_M} {d2 idx N : Nat} {As rest : List Value} {X : String} (hd : decode M.2.1 pc = .ok (.invokestatic idx, 3)) (hT : bz_hh M = some []) (hk : bz_ks M.1.cls idx M2 N) (hN : As.length = N) (hK : bz_KX l E M2 d2 As L g X) (hdd : d2 < d) (hst : st = As.reverse ++ rest) (hr : (rest.map fun v => v.category).sum ≤ 8) : bz_G l E M (bz_R d 1 6) L sz (bz_Fx E L g sz X) sz 0 0 L g pc lv st := by
  subst hst
  intro p e s m args below meth c H locs ls C hz hP hD hS hl
  obtain ⟨⟨w1, w2, w3, w4⟩, w5, w6⟩ := hk
  have hts := C.2.2.2.2.2.1
  refine bz_thru hT C hz hS (vx_runS (As := As) (rest := rest) (n := N) (index := idx) (own := M.1.cls) (nL := M.2.2.1) ⟨C.1, C.2.1, C.2.2.2.1, C.2.2.2.2.1, hts⟩ (hK sz) ⟨callB_of N hts (bz_gi w1) rfl rfl rfl (hts _ w2) (hts _ w5) w3 (bz_rmx hdd w4), hts _ w6⟩ ⟨bz_bl, fun U hU hW => ⟨rfl, by rw [hU]; exact hz, by rw [hU]; exact hP, va_K.moved hW.alike C.2.2.2.2.2.2.1, hD.weaken (fun _ _ _ _ => trivial), fun x hx => va_Nw.warmM hW (C.2.2.2.2.2.2.2.2.2.2.1 x hx), bz_Zt C hD hS hU hW⟩⟩ rfl hN hl.1 rfl ?_ hd ⟨Nat.le_refl _, Nat.le_refl _⟩)
  show 2 * 0 + _ ≤ 8
  omega
end BX
