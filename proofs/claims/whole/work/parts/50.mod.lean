/-! THE REFERENCE: one object with its rows; I its numbers by slot, A its rows by place -/
abbrev b_Mod (E : bz_E) (o : Nat) (I : Nat → Int32) (A : Nat → Nat → Int32) : List va_E :=
  [.inr (9, [.int (I 0), .ref (o + 1), .ref (o + 2), .ref (o + 3), .ref (o + 4), .ref (o + 5), .ref (o + 6), .ref (o + 7), .ref (o + 8), .ref (o + 9), .int (I 10), .int (I 11), .int (I 12), .int (I 13), .int (I 14), .int (I 15), .int (I 16), .int (I 17), .int (I 18), .int (I 19), .int (I 20), .int (I 21), .ref (o + 10), .ref (o + 11), .int (I 24), .ref (o + 12), .int (I 26), .int (I 27), .ref (o + 13), .ref (o + 14), .ref (o + 15)]),
   .inl (E.1.1 21, 2075, .inl (A 1)), .inl (E.1.1 21, 16, .inl (A 2)), .inl (E.1.1 21, 16, .inl (A 3)), .inl (E.1.1 21, 32, .inl (A 4)), .inl (E.1.1 21, 64, .inl (A 5)), .inl (E.1.1 21, 4, .inl (A 6)), .inl (E.1.1 21, 4, .inl (A 7)), .inl (E.1.1 21, 2480, .inl (A 8)), .inl (E.1.1 20, 600, .inl (A 9)), .inl (E.1.1 21, 40, .inl (A 10)), .inl (E.1.1 21, 5, .inl (A 11)), .inl (E.1.1 21, 2075, .inl (A 12)), .inl (E.1.1 21, 20750, .inl (A 13)), .inl (E.1.1 21, 4150, .inl (A 14)), .inl (E.1.1 22, 2, .inl (A 15))]
def m_tx (N : Nat → Int32) (e : Nat) (x : Tx) : Prop := N (e + 0) = nI (tK x) ∧ N (e + 1) = tI x ∧ N (e + 2) = nI (tA x) ∧ N (e + 3) = nI (tW x) ∧ N (e + 5) = tB (tR x) ∧ (tK x = 0 ∨ tK x = 2 → ∀ (j : Nat) (v : Int32), (tV x)[j]? = some v → N (e + 4) + nI j = v) ∧ (tK x = 3 → N (e + 7) = nI (tO x) ∧ ∀ (j : Nat) (v : Int32), (tV x)[j]? = some v → N (e + 8 + j) = v) ∧ (tK x = 1 → N (e + 14) = nI (tO x))
def m_wt (N : Nat → Int32) (e : Nat) (x : Tx) : Prop := m_tx N e x ∧ N (e + 6) = nI (tM x)
def m_hd (N : Nat → Int32) (e : Nat) (x : Tx) : Prop := m_tx N e x ∧ ∃ ac lt : Nat, N (e + 12) = nI ac ∧ N (e + 13) = nI lt ∧ ac + lt + 1 = tM x ∧ lt ≤ 50
def m_tg (N : Nat → Int32) (s : Nat) (T : Tg) : Prop := ∀ t, t < 8 → N (43 + 7 * (8 * s + t) + 0) = nI (T.1 t) ∧ (T.1 t ≠ 0 → N (43 + 7 * (8 * s + t) + 1) = nI (T.2.1 t)) ∧ N (43 + 7 * (8 * s + t) + 2) = nI (T.2.2.1 t) ∧ T.2.2.1 t < 16 ∧ T.2.1 t ≤ 4 ∧ ∀ i, i < 4 → N (43 + 7 * (8 * s + t) + 3 + i) = T.2.2.2 (t * 4 + i)
/-- a side of the reference -/
def m_sd (N : Nat → Int32) (s : Nat) (P : Po) : Prop := N (1 + s) = nI P.1.length ∧ N (3 + s) = nI P.2.1.length ∧ N (5 + s) = nI P.2.2.2.2.1 ∧ N (7 + s) = nI P.2.2.2.2.2.1 ∧ N (9 + s) = nI P.2.2.2.2.2.2 ∧ (∀ i, i < 16 → N (11 + 16 * s + i) = P.2.2.2.1 i) ∧ m_tg N s P.2.2.1 ∧ (∀ (k : Nat) (x : Tx), P.1[k]? = some x → m_wt N (155 + 480 * s + 15 * k) x) ∧ (∀ (k : Nat) (x : Tx), P.2.1[k]? = some x → m_hd N (1115 + 480 * s + 15 * k) x) ∧ s_lok P.1 ∧ s_lok P.2.1

set_option maxRecDepth 20000 in
set_option maxHeartbeats 1000000 in
theorem c_mwithin {l : Launch} {E : bz_E} {L : List Nat} {g : Nat → va_E} {v lo hi : Int32} : bz_K l E mX9_within 0 [.int v, .int lo, .int hi] L g (fun r g1 => r = some (.int (if v < lo then 0 else if hi < v then 0 else 1)) ∧ g1 = g) := by
  refine bz_K.of (by decide) (bz_le rfl) (fun sz => ?_)
  show bz_G _ _ _ _ _ _ _ _ _ _ _ _ 0 [(0, .int v), (1, .int lo), (2, .int hi)] []
  refine g_iload_n (q := 1) dX9_within_0 rfl rfl ?_
  refine g_iload_n (q := 2) dX9_within_1 rfl rfl ?_
  refine g_icmp_lt (q := 5) (t := 14) dX9_within_2 rfl (by decide) (fun c_2 => ?_) (fun c_2 => ?_)
  · refine g_iconst (q := 15) (v := 0) dX9_within_14 rfl (by decide) ?_
    exact g_zret dX9_within_15 rfl rfl ⟨by simp [*], rfl⟩
  · refine g_iload_n (q := 6) dX9_within_5 rfl rfl ?_
    refine g_iload_n (q := 7) dX9_within_6 rfl rfl ?_
    refine g_icmp_gt (q := 10) (t := 14) dX9_within_7 rfl (by decide) (fun c_7 => ?_) (fun c_7 => ?_)
    · refine g_iconst (q := 15) (v := 0) dX9_within_14 rfl (by decide) ?_
      exact g_zret dX9_within_15 rfl rfl ⟨by simp [*], rfl⟩
    · refine g_iconst (q := 11) (v := 1) dX9_within_10 rfl (by decide) ?_
      refine g_goto (q := 15) dX9_within_11 (by decide) ?_
      exact g_zret dX9_within_15 rfl rfl ⟨by simp [*], rfl⟩
set_option maxRecDepth 20000 in
set_option maxHeartbeats 1000000 in
theorem c_mhas {l : Launch} {E : bz_E} {L : List Nat} {g : Nat → va_E} {x b : Int32} : bz_K l E mX9_has 0 [.int x, .int b] L g (fun r g1 => r = some (.int (if (x >>> (b &&& 31)) &&& 1 = 1 then 1 else 0)) ∧ g1 = g) := by
  refine bz_K.of (by decide) (bz_le rfl) (fun sz => ?_)
  show bz_G _ _ _ _ _ _ _ _ _ _ _ _ 0 [(0, .int x), (1, .int b)] []
  refine g_iload_n (q := 1) dX9_has_0 rfl rfl ?_
  refine g_iload_n (q := 2) dX9_has_1 rfl rfl ?_
  refine g_ishr (q := 3) dX9_has_2 rfl ?_
  refine g_iconst (q := 4) (v := 1) dX9_has_3 rfl (by decide) ?_
  refine g_iand (q := 5) dX9_has_4 rfl ?_
  refine g_iconst (q := 6) (v := 1) dX9_has_5 rfl (by decide) ?_
  refine g_icmp_ne (q := 9) (t := 13) dX9_has_6 rfl (by decide) (fun c_6 => ?_) (fun c_6 => ?_)
  · refine g_iconst (q := 14) (v := 0) dX9_has_13 rfl (by decide) ?_
    exact g_zret dX9_has_14 rfl rfl ⟨by simp [*], rfl⟩
  · refine g_iconst (q := 10) (v := 1) dX9_has_9 rfl (by decide) ?_
    refine g_goto (q := 14) dX9_has_10 (by decide) ?_
    exact g_zret dX9_has_14 rfl rfl ⟨by simp [*], rfl⟩
set_option maxRecDepth 20000 in
set_option maxHeartbeats 1000000 in
theorem c_waits {l : Launch} {E : bz_E} {L : List Nat} {g : Nat → va_E} {s k : Nat} : bz_K l E mX9_waits 0 [.int (nI s), .int (nI k)] L g (fun r g1 => r = some (.int (nI (155 + 480 * s + 15 * k))) ∧ g1 = g) := by
  refine bz_K.of (by decide) (bz_le rfl) (fun sz => ?_)
  show bz_G _ _ _ _ _ _ _ _ _ _ _ _ 0 [(0, .int (nI s)), (1, .int (nI k))] []
  refine g_sipush (q := 3) (v := (nI 155)) dX9_waits_0 rfl (by decide) ?_
  refine g_sipush (q := 6) (v := (nI 480)) dX9_waits_3 rfl (by decide) ?_
  refine g_iload_n (q := 7) dX9_waits_6 rfl rfl ?_
  refine g_imulN (q := 8) dX9_waits_7 rfl ?_
  refine g_iaddN (q := 9) dX9_waits_8 rfl ?_
  refine g_bipush (q := 11) (v := (nI 15)) dX9_waits_9 rfl (by decide) ?_
  refine g_iload_n (q := 12) dX9_waits_11 rfl rfl ?_
  refine g_imulN (q := 13) dX9_waits_12 rfl ?_
  refine g_iaddN (q := 14) dX9_waits_13 rfl ?_
  exact g_iret dX9_waits_14 rfl (⟨rfl, rfl⟩)
set_option maxRecDepth 20000 in
set_option maxHeartbeats 1000000 in
theorem c_held0 {l : Launch} {E : bz_E} {L : List Nat} {g : Nat → va_E} {s k : Nat} : bz_K l E mX9_held0 0 [.int (nI s), .int (nI k)] L g (fun r g1 => r = some (.int (nI (1115 + 480 * s + 15 * k))) ∧ g1 = g) := by
  refine bz_K.of (by decide) (bz_le rfl) (fun sz => ?_)
  show bz_G _ _ _ _ _ _ _ _ _ _ _ _ 0 [(0, .int (nI s)), (1, .int (nI k))] []
  refine g_sipush (q := 3) (v := (nI 1115)) dX9_held0_0 rfl (by decide) ?_
  refine g_sipush (q := 6) (v := (nI 480)) dX9_held0_3 rfl (by decide) ?_
  refine g_iload_n (q := 7) dX9_held0_6 rfl rfl ?_
  refine g_imulN (q := 8) dX9_held0_7 rfl ?_
  refine g_iaddN (q := 9) dX9_held0_8 rfl ?_
  refine g_bipush (q := 11) (v := (nI 15)) dX9_held0_9 rfl (by decide) ?_
  refine g_iload_n (q := 12) dX9_held0_11 rfl rfl ?_
  refine g_imulN (q := 13) dX9_held0_12 rfl ?_
  refine g_iaddN (q := 14) dX9_held0_13 rfl ?_
  exact g_iret dX9_held0_14 rfl (⟨rfl, rfl⟩)
set_option maxRecDepth 20000 in
set_option maxHeartbeats 1000000 in
theorem c_tagged {l : Launch} {E : bz_E} {L : List Nat} {g : Nat → va_E} {s k : Nat} : bz_K l E mX9_tagged 0 [.int (nI s), .int (nI k)] L g (fun r g1 => r = some (.int (nI (43 + 7 * (8 * s + k)))) ∧ g1 = g) := by
  refine bz_K.of (by decide) (bz_le rfl) (fun sz => ?_)
  show bz_G _ _ _ _ _ _ _ _ _ _ _ _ 0 [(0, .int (nI s)), (1, .int (nI k))] []
  refine g_bipush (q := 2) (v := (nI 43)) dX9_tagged_0 rfl (by decide) ?_
  refine g_bipush (q := 4) (v := (nI 7)) dX9_tagged_2 rfl (by decide) ?_
  refine g_bipush (q := 6) (v := (nI 8)) dX9_tagged_4 rfl (by decide) ?_
  refine g_iload_n (q := 7) dX9_tagged_6 rfl rfl ?_
  refine g_imulN (q := 8) dX9_tagged_7 rfl ?_
  refine g_iload_n (q := 9) dX9_tagged_8 rfl rfl ?_
  refine g_iaddN (q := 10) dX9_tagged_9 rfl ?_
  refine g_imulN (q := 11) dX9_tagged_10 rfl ?_
  refine g_iaddN (q := 12) dX9_tagged_11 rfl ?_
  exact g_iret dX9_tagged_12 rfl (⟨rfl, rfl⟩)
theorem v_pcs : ∀ m, m < 16 → 0 < m → v_pc m = v_pc (m &&& (m - 1)) + 1 ∧ m &&& (m - 1) < m := by decide
set_option maxRecDepth 20000 in
set_option maxHeartbeats 1000000 in
theorem c_mbits {l : Launch} {E : bz_E} {L : List Nat} {g : Nat → va_E} {m : Nat} (hm : m < 16) : bz_K l E mX9_bits 0 [.int (nI m)] L g (fun r g1 => r = some (.int (nI (v_pc m))) ∧ g1 = g) := by
  refine bz_K.of (by decide) (bz_le rfl) (fun sz => ?_)
  show bz_G _ _ _ _ _ _ _ _ _ _ _ _ 0 [(0, .int (nI m))] []
  have K : ∀ (f v c : Nat), v ≤ f → v < 16 → c + v_pc v = v_pc m → bz_G l E mX9_bits (bz_R 0 0 0) L sz (bz_Fm E L sz (fun r g1 => r = some (.int (nI (v_pc m))) ∧ g1 = g)) sz 0 0 L g 4 [(2, .int (nI v)), (1, .int (nI c)), (0, .int (nI m))] [] := by
    intro f
    induction f with
    | zero =>
      intro v c hf hv hc
      have hv0 : v = 0 := by omega
      subst hv0
      refine g_iload_n (q := 5) dX9_bits_4 rfl rfl ?_
      refine g_ifN_eq (q := 8) (t := 20) dX9_bits_5 rfl (by decide) (by omega) (fun _ => ?_) (fun c => absurd c (by omega))
      refine g_iload_n (q := 21) dX9_bits_20 rfl rfl ?_
      exact g_iret dX9_bits_21 rfl (⟨by rw [← hc]; rfl, rfl⟩)
    | succ f ih =>
      intro v c hf hv hc
      refine g_iload_n (q := 5) dX9_bits_4 rfl rfl ?_
      refine g_ifN_eq (q := 8) (t := 20) dX9_bits_5 rfl (by decide) (by omega) (fun c_5 => ?_) (fun c_5 => ?_)
      · refine g_iload_n (q := 21) dX9_bits_20 rfl rfl ?_
        exact g_iret dX9_bits_21 rfl (⟨by rw [← hc]; subst c_5; rfl, rfl⟩)
      · refine g_iincN (q := 11) (c := 1) dX9_bits_8 rfl (by decide) rfl rfl (by decide) ?_
        refine g_iload_n (q := 12) dX9_bits_11 rfl rfl ?_
        refine g_iload_n (q := 13) dX9_bits_12 rfl rfl ?_
        refine g_iconst (q := 14) (v := (nI 1)) dX9_bits_13 rfl (by decide) ?_
        refine g_isubN (q := 15) dX9_bits_14 rfl (by omega) ?_
        refine g_iand (q := 16) dX9_bits_15 rfl ?_
        refine g_eqi (v := nI (v &&& (v - 1))) ((bz_and16 v hv (v - 1) (by omega)).1) ?_
        refine g_istore_n (q := 17) rfl dX9_bits_16 rfl (by decide) rfl ?_
        refine g_goto (q := 4) dX9_bits_17 (by decide) ?_
        refine g_lvs (lv1 := [(2, .int (nI (v &&& (v - 1)))), (1, .int (nI (c + 1))), (0, .int (nI m))]) ⟨rfl, rfl, rfl, trivial⟩ ?_
        obtain ⟨e1, e2⟩ := v_pcs v hv (by omega)
        exact ih (v &&& (v - 1)) (c + 1) (by omega) (by omega) (by omega)
  refine g_iconst (q := 1) (v := (nI 0)) dX9_bits_0 rfl (by decide) ?_
  refine g_istore_n (q := 2) rfl dX9_bits_1 rfl (by decide) rfl ?_
  refine g_iload_n (q := 3) dX9_bits_2 rfl rfl ?_
  refine g_istore_n (q := 4) rfl dX9_bits_3 rfl (by decide) rfl ?_
  refine g_lvs (lv1 := [(2, .int (nI m)), (1, .int (nI 0)), (0, .int (nI m))]) ⟨rfl, rfl, rfl, trivial⟩ ?_
  exact K m m 0 (Nat.le_refl m) hm (by omega)
def m_ps (tb : Nat → Nat) (a b : Nat) (rx : Bool) : Bool := tb (4 * a + b) == 1 || (rx && b == 0)
theorem m_ps_blk {tb : Nat → Nat} {x y : Tx} (h : tb (4 * tK x + tK y) ≤ 1) : m_ps tb (tK x) (tK y) (tR x) = !s_blk tb x y := by
  unfold m_ps s_blk
  rw [show tK x * 4 + tK y = 4 * tK x + tK y by omega]
  rcases (show tb (4 * tK x + tK y) = 0 ∨ tb (4 * tK x + tK y) = 1 by omega) with e | e <;> rw [e] <;> cases tR x <;> cases (tK y == 0) <;> rfl
set_option maxRecDepth 20000 in
set_option maxHeartbeats 1000000 in
theorem c_mpasses {l : Launch} {E : bz_E} {L : List Nat} {g : Nat → va_E} {o : Nat} {I : Nat → Int32} {A : Nat → Nat → Int32} {a b : Nat} {rx : Bool} {tb : Nat → Nat} (ha : a < 4) (hb : b < 4) (ht : ∀ i, i < 16 → A 4 i = nI (tb i) ∧ tb i ≤ 1) (hH : bz_H L g o (b_Mod E o I A)) : bz_K l E mX9_passes 0 [.ref o, .int (nI a), .int (nI b), .int (tB rx)] L g (fun r g1 => r = some (.int (tB (m_ps tb a b rx))) ∧ g1 = g) := by
  refine bz_K.of (by decide) (bz_le rfl) (fun sz => ?_)
  show bz_G _ _ _ _ _ _ _ _ _ _ _ _ 0 [(0, .ref o), (1, .int (nI a)), (2, .int (nI b)), (3, .int (tB rx))] []
  have hB := bz_B.rf (bz_W.one hH)
  have hle := (ht (4 * a + b) (by omega)).2
  cases rx with
  | false =>
    refine g_aload_n (q := 1) dX9_passes_0 rfl rfl ?_
    refine gb_getf (q := 4) (j := 0) (i := 0) dX9_passes_1 rfl fl_X9_19 hB rfl rfl rfl rfl ?_
    refine g_iconst (q := 5) (v := (nI 4)) dX9_passes_4 rfl (by decide) ?_
    refine g_iload_n (q := 6) dX9_passes_5 rfl rfl ?_
    refine g_imulN (q := 7) dX9_passes_6 rfl ?_
    refine g_iload_n (q := 8) dX9_passes_7 rfl rfl ?_
    refine g_iaddN (q := 9) dX9_passes_8 rfl ?_
    refine gb_ialdN (q := 10) (j := 0) (i := 4) dX9_passes_9 rfl hB rfl rfl rfl (by omega) (by decide) ?_
    refine g_eqi (v := nI (tb (4 * a + b))) ((ht (4 * a + b) (by omega)).1) ?_
    refine g_iconst (q := 11) (v := (nI 1)) dX9_passes_10 rfl (by decide) ?_
    refine g_icmpN_eq (q := 14) (t := 22) dX9_passes_11 rfl (by decide) (by omega) (by omega) (fun c_11 => ?_) (fun c_11 => ?_)
    · refine g_iconst (q := 23) (v := (nI 1)) dX9_passes_22 rfl (by decide) ?_
      refine g_goto (q := 27) dX9_passes_23 (by decide) ?_
      exact g_zret dX9_passes_27 rfl rfl ⟨by first | (rw [show m_ps tb a b false = true from by simp [m_ps, c_11]]; rfl) | (rw [show m_ps tb a b false = false from by simp [m_ps, c_11]]; rfl), rfl⟩
    · refine g_iload_n (q := 15) dX9_passes_14 rfl rfl ?_
      refine g_if_eq (q := 18) (t := 26) dX9_passes_15 rfl (by decide) (fun _ => ?_) (fun c => absurd (rfl) c)
      refine g_iconst (q := 27) (v := (nI 0)) dX9_passes_26 rfl (by decide) ?_
      exact g_zret dX9_passes_27 rfl rfl ⟨by first | (rw [show m_ps tb a b false = true from by simp [m_ps, c_11]]; rfl) | (rw [show m_ps tb a b false = false from by simp [m_ps, c_11]]; rfl), rfl⟩
  | true =>
    refine g_aload_n (q := 1) dX9_passes_0 rfl rfl ?_
    refine gb_getf (q := 4) (j := 0) (i := 0) dX9_passes_1 rfl fl_X9_19 hB rfl rfl rfl rfl ?_
    refine g_iconst (q := 5) (v := (nI 4)) dX9_passes_4 rfl (by decide) ?_
    refine g_iload_n (q := 6) dX9_passes_5 rfl rfl ?_
    refine g_imulN (q := 7) dX9_passes_6 rfl ?_
    refine g_iload_n (q := 8) dX9_passes_7 rfl rfl ?_
    refine g_iaddN (q := 9) dX9_passes_8 rfl ?_
    refine gb_ialdN (q := 10) (j := 0) (i := 4) dX9_passes_9 rfl hB rfl rfl rfl (by omega) (by decide) ?_
    refine g_eqi (v := nI (tb (4 * a + b))) ((ht (4 * a + b) (by omega)).1) ?_
    refine g_iconst (q := 11) (v := (nI 1)) dX9_passes_10 rfl (by decide) ?_
    refine g_icmpN_eq (q := 14) (t := 22) dX9_passes_11 rfl (by decide) (by omega) (by omega) (fun c_11 => ?_) (fun c_11 => ?_)
    · refine g_iconst (q := 23) (v := (nI 1)) dX9_passes_22 rfl (by decide) ?_
      refine g_goto (q := 27) dX9_passes_23 (by decide) ?_
      exact g_zret dX9_passes_27 rfl rfl ⟨by first | (rw [show m_ps tb a b true = true from by simp [m_ps, c_11]]; rfl) | (rw [show m_ps tb a b true = false from by simp [m_ps, c_11]]; rfl), rfl⟩
    · refine g_iload_n (q := 15) dX9_passes_14 rfl rfl ?_
      refine g_if_eq (q := 18) (t := 26) dX9_passes_15 rfl (by decide) (fun c => absurd c (by decide)) (fun _ => ?_)
      refine g_iload_n (q := 19) dX9_passes_18 rfl rfl ?_
      refine g_ifN_ne (q := 22) (t := 26) dX9_passes_19 rfl (by decide) (by omega) (fun c_19 => ?_) (fun c_19 => ?_)
      · refine g_iconst (q := 27) (v := (nI 0)) dX9_passes_26 rfl (by decide) ?_
        exact g_zret dX9_passes_27 rfl rfl ⟨by first | (rw [show m_ps tb a b true = true from by simp [m_ps, c_11, c_19]]; rfl) | (rw [show m_ps tb a b true = false from by simp [m_ps, c_11, c_19]]; rfl), rfl⟩
      · refine g_iconst (q := 23) (v := (nI 1)) dX9_passes_22 rfl (by decide) ?_
        refine g_goto (q := 27) dX9_passes_23 (by decide) ?_
        exact g_zret dX9_passes_27 rfl rfl ⟨by first | (rw [show m_ps tb a b true = true from by simp [m_ps, c_11, c_19]]; rfl) | (rw [show m_ps tb a b true = false from by simp [m_ps, c_11, c_19]]; rfl), rfl⟩
