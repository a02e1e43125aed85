/-! the reference: copies, keeps, undo -/
theorem va_cpy0 {f h : Nat → Int32} {a b : Nat} : va_cpy f h a b 0 = h := by funext j; unfold va_cpy; rw [if_neg (by omega)]
theorem va_cpyS {f h : Nat → Int32} {a b i : Nat} : upd (va_cpy f h a b i) (b + i) (f (a + i)) = va_cpy f h a b (i + 1) := by
  funext j
  by_cases h1 : j = b + i
  · subst h1; rw [upd_eq]; unfold va_cpy; rw [if_pos ⟨by omega, by omega⟩]; congr 1; omega
  · rw [upd_ne h1]; unfold va_cpy
    by_cases h2 : b ≤ j ∧ j < b + i
    · rw [if_pos h2, if_pos ⟨by omega, by omega⟩]
    · rw [if_neg h2, if_neg (by omega)]
theorem va_cpyin {f h : Nat → Int32} {a b n j : Nat} (hj : j < n) : va_cpy f h a b n (b + j) = f (a + j) := by unfold va_cpy; rw [if_pos ⟨by omega, by omega⟩]; congr 1; omega
theorem va_cpyout {f h : Nat → Int32} {a b n j : Nat} (hj : ¬ (b ≤ j ∧ j < b + n)) : va_cpy f h a b n j = h j := by unfold va_cpy; rw [if_neg hj]
theorem m_st_fr {N N' : Nat → Int32} {σ : Si} (h : m_st N σ) (hf : ∀ j, j < 2075 → N' j = N j) : m_st N' σ :=
  ⟨(hf 0 (by omega)).trans h.1, m_sd_fr h.2.1 (fun j hj => hf j (by unfold m_rg at hj; omega)), m_sd_fr h.2.2 (fun j hj => hf j (by unfold m_rg at hj; omega))⟩
/-- the rows of older situations -/
def m_un (U : Nat → Int32) (hs : List Si) : Prop := ∀ (i : Nat) (σ : Si), hs[i]? = some σ → m_st (fun j => U (2075 * i + j)) σ

set_option maxRecDepth 20000 in
set_option maxHeartbeats 1000000 in
theorem c_copies0 {l : Launch} {E : bz_E} {L : List Nat} {g : Nat → va_E} {p q n1 n2 a b n : Nat} {f h : Nat → Int32} (hp : bz_H L g p [.inl (E.1.1 21, n1, .inl f)]) (hq : bz_H L g q [.inl (E.1.1 21, n2, .inl h)]) (hne : p ≠ q) (ha : a + n ≤ n1) (hb : b + n ≤ n2) (hn1 : n1 < 100000) (hn2 : n2 < 100000) : bz_K l E mX9_copies 0 [.ref p, .int (nI a), .ref q, .int (nI b), .int (nI n)] L g (fun r g1 => r = none ∧ bz_B L g g1 [(q, [.inl (E.1.1 21, n2, .inl (va_cpy f h a b n))])]) := by
  refine bz_K.of (by decide) (bz_le rfl) (fun sz => ?_)
  show bz_G _ _ _ _ _ _ _ _ _ _ _ _ 0 [(0, .ref p), (1, .int (nI a)), (2, .ref q), (3, .int (nI b)), (4, .int (nI n))] []
  have hB := bz_B.rf (bz_W.two hq hp (by show q + 1 ≤ p ∨ p + 1 ≤ q; omega))
  have K : ∀ (m i : Nat) (g1 : Nat → va_E), i + m = n → bz_B L g g1 [(q, [.inl (E.1.1 21, n2, .inl (va_cpy f h a b i))]), (p, [.inl (E.1.1 21, n1, .inl f)])] → bz_G l E mX9_copies (bz_R 0 0 0) L sz (bz_Fm E L sz (fun r g1 => r = none ∧ bz_B L g g1 [(q, [.inl (E.1.1 21, n2, .inl (va_cpy f h a b n))])])) sz 0 0 L g1 3 [(5, .int (nI i)), (0, .ref p), (1, .int (nI a)), (2, .ref q), (3, .int (nI b)), (4, .int (nI n))] [] := by
    intro m
    induction m with
    | zero =>
      intro i g2 hi hB
      have hi2 : i = n := by omega
      subst hi2
      refine g_iload (q := 5) dX9_copies_3 rfl rfl ?_
      refine g_iload (q := 7) dX9_copies_5 rfl rfl ?_
      refine g_icmpN_ge (q := 10) (t := 28) dX9_copies_7 rfl (by decide) (by omega) (by omega) (fun _ => ?_) (fun c => absurd c (by omega))
      exact g_vret dX9_copies_28 rfl (⟨rfl, bz_B.fst hB hp⟩)
    | succ m ih =>
      intro i g2 hi hB
      refine g_iload (q := 5) dX9_copies_3 rfl rfl ?_
      refine g_iload (q := 7) dX9_copies_5 rfl rfl ?_
      refine g_icmpN_ge (q := 10) (t := 28) dX9_copies_7 rfl (by decide) (by omega) (by omega) (fun c => absurd c (by omega)) (fun _ => ?_)
      refine g_aload_n (q := 11) dX9_copies_10 rfl rfl ?_
      refine g_iload_n (q := 12) dX9_copies_11 rfl rfl ?_
      refine g_iload (q := 14) dX9_copies_12 rfl rfl ?_
      refine g_iaddN (q := 15) dX9_copies_14 rfl ?_
      refine g_aload_n (q := 16) dX9_copies_15 rfl rfl ?_
      refine g_iload_n (q := 17) dX9_copies_16 rfl rfl ?_
      refine g_iload (q := 19) dX9_copies_17 rfl rfl ?_
      refine g_iaddN (q := 20) dX9_copies_19 rfl ?_
      refine gb_ialdN (q := 21) (j := 1) (i := 0) dX9_copies_20 rfl hB rfl rfl rfl (by omega) (by omega) ?_
      refine gb_iastN (q := 22) (j := 0) (i := 0) dX9_copies_21 rfl hB rfl rfl rfl (by omega) (by omega) (fun g hB => ?_)
      refine g_iincN (q := 25) (c := 1) dX9_copies_22 rfl (by decide) rfl rfl (by decide) ?_
      refine g_goto (q := 3) dX9_copies_25 (by decide) ?_
      refine g_lvs (lv1 := [(5, .int (nI (i + 1))), (0, .ref p), (1, .int (nI a)), (2, .ref q), (3, .int (nI b)), (4, .int (nI n))]) ⟨rfl, rfl, rfl, rfl, rfl, rfl, trivial⟩ ?_
      refine ih (i + 1) _ (by omega) ?_
      rw [← va_cpyS]
      exact hB
  refine g_iconst (q := 1) (v := (nI 0)) dX9_copies_0 rfl (by decide) ?_
  refine g_istore (q := 3) dX9_copies_1 rfl (by decide) rfl ?_
  refine g_lvs (lv1 := [(5, .int (nI 0)), (0, .ref p), (1, .int (nI a)), (2, .ref q), (3, .int (nI b)), (4, .int (nI n))]) ⟨rfl, rfl, rfl, rfl, rfl, rfl, trivial⟩ ?_
  exact K n 0 _ (by omega) (by rw [va_cpy0]; exact hB)
set_option maxRecDepth 20000 in
set_option maxHeartbeats 1000000 in
theorem c_copies1 {l : Launch} {E : bz_E} {L : List Nat} {g : Nat → va_E} {q n2 a b n : Nat} {h : Nat → Int32} (hq : bz_H L g q [.inl (E.1.1 21, n2, .inl h)]) (hab : b ≤ a) (ha : a + n ≤ n2) (hn2 : n2 < 100000) : bz_K l E mX9_copies 0 [.ref q, .int (nI a), .ref q, .int (nI b), .int (nI n)] L g (fun r g1 => r = none ∧ bz_B L g g1 [(q, [.inl (E.1.1 21, n2, .inl (va_cpy h h a b n))])]) := by
  refine bz_K.of (by decide) (bz_le rfl) (fun sz => ?_)
  show bz_G _ _ _ _ _ _ _ _ _ _ _ _ 0 [(0, .ref q), (1, .int (nI a)), (2, .ref q), (3, .int (nI b)), (4, .int (nI n))] []
  have hB := bz_B.rf (bz_W.one hq)
  have K : ∀ (m i : Nat) (g1 : Nat → va_E), i + m = n → bz_B L g g1 [(q, [.inl (E.1.1 21, n2, .inl (va_cpy h h a b i))])] → bz_G l E mX9_copies (bz_R 0 0 0) L sz (bz_Fm E L sz (fun r g1 => r = none ∧ bz_B L g g1 [(q, [.inl (E.1.1 21, n2, .inl (va_cpy h h a b n))])])) sz 0 0 L g1 3 [(5, .int (nI i)), (0, .ref q), (1, .int (nI a)), (2, .ref q), (3, .int (nI b)), (4, .int (nI n))] [] := by
    intro m
    induction m with
    | zero =>
      intro i g2 hi hB
      have hi2 : i = n := by omega
      subst hi2
      refine g_iload (q := 5) dX9_copies_3 rfl rfl ?_
      refine g_iload (q := 7) dX9_copies_5 rfl rfl ?_
      refine g_icmpN_ge (q := 10) (t := 28) dX9_copies_7 rfl (by decide) (by omega) (by omega) (fun _ => ?_) (fun c => absurd c (by omega))
      exact g_vret dX9_copies_28 rfl (⟨rfl, hB⟩)
    | succ m ih =>
      intro i g2 hi hB
      refine g_iload (q := 5) dX9_copies_3 rfl rfl ?_
      refine g_iload (q := 7) dX9_copies_5 rfl rfl ?_
      refine g_icmpN_ge (q := 10) (t := 28) dX9_copies_7 rfl (by decide) (by omega) (by omega) (fun c => absurd c (by omega)) (fun _ => ?_)
      refine g_aload_n (q := 11) dX9_copies_10 rfl rfl ?_
      refine g_iload_n (q := 12) dX9_copies_11 rfl rfl ?_
      refine g_iload (q := 14) dX9_copies_12 rfl rfl ?_
      refine g_iaddN (q := 15) dX9_copies_14 rfl ?_
      refine g_aload_n (q := 16) dX9_copies_15 rfl rfl ?_
      refine g_iload_n (q := 17) dX9_copies_16 rfl rfl ?_
      refine g_iload (q := 19) dX9_copies_17 rfl rfl ?_
      refine g_iaddN (q := 20) dX9_copies_19 rfl ?_
      refine gb_ialdN (q := 21) (j := 0) (i := 0) dX9_copies_20 rfl hB rfl rfl rfl (by omega) (by omega) ?_
      refine g_eqi (v := h (a + i)) (va_cpyout (by omega)) ?_
      refine gb_iastN (q := 22) (j := 0) (i := 0) dX9_copies_21 rfl hB rfl rfl rfl (by omega) (by omega) (fun g hB => ?_)
      refine g_iincN (q := 25) (c := 1) dX9_copies_22 rfl (by decide) rfl rfl (by decide) ?_
      refine g_goto (q := 3) dX9_copies_25 (by decide) ?_
      refine g_lvs (lv1 := [(5, .int (nI (i + 1))), (0, .ref q), (1, .int (nI a)), (2, .ref q), (3, .int (nI b)), (4, .int (nI n))]) ⟨rfl, rfl, rfl, rfl, rfl, rfl, trivial⟩ ?_
      refine ih (i + 1) _ (by omega) ?_
      rw [← va_cpyS]
      exact hB
  refine g_iconst (q := 1) (v := (nI 0)) dX9_copies_0 rfl (by decide) ?_
  refine g_istore (q := 3) dX9_copies_1 rfl (by decide) rfl ?_
  refine g_lvs (lv1 := [(5, .int (nI 0)), (0, .ref q), (1, .int (nI a)), (2, .ref q), (3, .int (nI b)), (4, .int (nI n))]) ⟨rfl, rfl, rfl, rfl, rfl, rfl, trivial⟩ ?_
  exact K n 0 _ (by omega) (by rw [va_cpy0]; exact hB)
