/-! class BridgeText: settings, the stack of operators and brackets -/
theorem bz_B.last {L : List Nat} {g g1 : Nat → va_E} {bs : bz_L} {o2 : Nat} {e2 : List va_E} (h : bz_B L g g1 (bs ++ [(o2, e2)])) (h2 : bz_H L g o2 e2) : bz_B L g g1 bs := by
  refine ⟨⟨fun b hb => h.1.1 b (List.mem_append_left _ hb), (List.pairwise_append.mp h.1.2).1⟩, fun a ha => ?_⟩
  by_cases c : o2 ≤ a ∧ a < o2 + e2.length
  · have hH := h.1.1 (o2, e2) (List.mem_append_right _ (List.mem_singleton.mpr rfl))
    have hl : a - o2 < e2.length := by omega
    have x1 := hH (a - o2) e2[a - o2] (List.getElem?_eq_getElem hl)
    have x2 := h2 (a - o2) e2[a - o2] (List.getElem?_eq_getElem hl)
    dsimp only at x1
    rw [show o2 + (a - o2) = a by omega] at x1 x2
    rw [x1.2, x2.2]
  · refine h.2 a (fun r hr => ?_)
    rw [List.map_append] at hr
    rcases List.mem_append.mp hr with hr | hr
    · exact ha r hr
    · have hr2 : r = (o2, e2.length) := by simpa using hr
      rw [hr2]
      exact c
def k_set (b : Nat → Nat) (n c1 c2 lo hi : Nat) (t : Tok) (e : Nat × Nat) : Nat × Nat × Tok × (Nat × Nat) :=
  ((k_num b n 0 (c1 - 1) t e).1 * c2 + (k_num b n 0 (c2 - 1) (k_num b n 0 (c1 - 1) t e).2.1 (k_num b n 0 (c1 - 1) t e).2.2).1,
   k_num b n lo hi (k_num b n 0 (c2 - 1) (k_num b n 0 (c1 - 1) t e).2.1 (k_num b n 0 (c1 - 1) t e).2.2).2.1 (k_num b n 0 (c2 - 1) (k_num b n 0 (c1 - 1) t e).2.1 (k_num b n 0 (c1 - 1) t e).2.2).2.2)
theorem k_set_of {b : Nat → Nat} {n c1 c2 lo hi : Nat} {t t1 t2 t3 : Tok} {e e1 e2 e3 : Nat × Nat} {v1 v2 v3 : Nat} (h1 : k_num b n 0 (c1 - 1) t e = (v1, t1, e1)) (h2 : k_num b n 0 (c2 - 1) t1 e1 = (v2, t2, e2)) (h3 : k_num b n lo hi t2 e2 = (v3, t3, e3)) : k_set b n c1 c2 lo hi t e = (v1 * c2 + v2, v3, t3, e3) := by
  unfold k_set
  rw [h1]
  dsimp only
  rw [h2]
  dsimp only
  rw [h3]
theorem k_set_l {b : Nat → Nat} {n c1 c2 lo hi : Nat} {t : Tok} {e : Nat × Nat} {q : Nat × Nat × Tok} (h : p_set b n c1 c2 lo hi t = .inl q) : k_set b n c1 c2 lo hi t e = (q.1, q.2.1, q.2.2, e) := by
  unfold p_set at h
  cases e1 : p_num b n 0 (c1 - 1) t with
  | inr z => rw [e1] at h; cases h
  | inl q1 =>
    rw [e1] at h
    dsimp only at h
    cases e2 : p_num b n 0 (c2 - 1) q1.2 with
    | inr z => rw [e2] at h; cases h
    | inl q2 =>
      rw [e2] at h
      dsimp only at h
      cases e3 : p_num b n lo hi q2.2 with
      | inr z => rw [e3] at h; cases h
      | inl q3 =>
        rw [e3] at h
        cases h
        exact k_set_of (k_num_l e1) (k_num_l e2) (k_num_l e3)
theorem k_set_r {b : Nat → Nat} {n c1 c2 lo hi : Nat} {t : Tok} {e z : Nat × Nat} (he : e.1 = 0) (h : p_set b n c1 c2 lo hi t = .inr z) : (k_set b n c1 c2 lo hi t e).2.2.2 = z := by
  unfold p_set at h
  unfold k_set
  cases e1 : p_num b n 0 (c1 - 1) t with
  | inr y =>
    rw [e1] at h
    have hz : y = z := Sum.inr.inj h
    subst hz
    have h1 := k_num_r he e1
    have hy := (p_num_r e1).1
    have h2 : (k_num b n 0 (c2 - 1) (k_num b n 0 (c1 - 1) t e).2.1 (k_num b n 0 (c1 - 1) t e).2.2).2.2 = y := by rw [k_num_e (by rw [h1]; omega)]; exact h1
    show (k_num b n lo hi _ _).2.2 = y
    rw [k_num_e (by rw [h2]; omega)]
    exact h2
  | inl q1 =>
    rw [e1] at h
    dsimp only at h
    rw [k_num_l e1]
    dsimp only
    cases e2 : p_num b n 0 (c2 - 1) q1.2 with
    | inr y =>
      rw [e2] at h
      cases h
      have h1 := k_num_r he e2
      have hy := (p_num_r e2).1
      rw [k_num_e (by rw [h1]; omega)]
      exact h1
    | inl q2 =>
      rw [e2] at h
      dsimp only at h
      rw [k_num_l e2]
      dsimp only
      cases e3 : p_num b n lo hi q2.2 with
      | inr y =>
        rw [e3] at h
        cases h
        exact k_num_r he e3
      | inl q3 => rw [e3] at h; cases h
/-- the object's stack, its items -/
def k_sk (pd : Nat → Int32) (S : List Nat) : Prop := ∀ (j c : Nat), S.reverse[j]? = some c → pd j = nI c
def k_it (it : Nat → Int32) (u : List Int32) : Prop := ∀ (j : Nat) (y : Int32), u[j]? = some y → it j = y
theorem k_sk.tl {pd : Nat → Int32} {S : List Nat} {c : Nat} (h : k_sk pd (c :: S)) : k_sk pd S := fun j y hj => h j y (by
  rw [List.reverse_cons, List.getElem?_append_left (List.getElem?_eq_some_iff.mp hj).1]
  exact hj)
theorem k_sk.hd {pd : Nat → Int32} {S : List Nat} {c : Nat} (h : k_sk pd (c :: S)) : pd S.length = nI c := h S.length c (by
  rw [List.reverse_cons, List.getElem?_append_right (by simp)]
  simp)
theorem k_sk.push {pd : Nat → Int32} {S : List Nat} {c : Nat} (h : k_sk pd S) : k_sk (upd pd S.length (nI c)) (c :: S) := fun j y hj => by
  rw [List.reverse_cons] at hj
  rcases Nat.lt_or_ge j S.length with q | q
  · rw [List.getElem?_append_left (by simpa using q)] at hj
    rw [upd_ne (by omega)]
    exact h j y hj
  · rw [List.getElem?_append_right (by simpa using q)] at hj
    have hl := (List.getElem?_eq_some_iff.mp hj).1
    have hz : j = S.length := by simp at hl; omega
    subst hz
    rw [upd_eq]
    simp at hj
    rw [hj]
theorem k_it.app {it : Nat → Int32} {u : List Int32} {y : Int32} (h : k_it it u) : k_it (upd it u.length y) (u ++ [y]) := fun j z hj => by
  rcases Nat.lt_or_ge j u.length with q | q
  · rw [List.getElem?_append_left q] at hj
    rw [upd_ne (by omega)]
    exact h j z hj
  · rw [List.getElem?_append_right q] at hj
    have hl := (List.getElem?_eq_some_iff.mp hj).1
    have hz : j = u.length := by simp at hl; omega
    subst hz
    rw [upd_eq]
    simpa using hj
theorem i32_m1 (a : Int32) : a + Int32.ofInt (-1) = a - nI 1 := by
  rw [Int32.sub_eq_add_neg]
  rfl
theorem x_fl_mem {r : Nat} : ∀ (S : List Nat) (u : List Int32), ∀ c ∈ (x_fl r S u).1, c ∈ S
  | [], u, c, h => h
  | d :: S, u, c, h => by
    rw [x_fl] at h
    by_cases hr : r ≤ t_rk d
    · rw [if_pos hr] at h; exact List.mem_cons_of_mem _ (x_fl_mem S _ c h)
    · rw [if_neg hr] at h; exact h
theorem x_fl_sk {r : Nat} {pd : Nat → Int32} : ∀ (S : List Nat) (u : List Int32), k_sk pd S → k_sk pd (x_fl r S u).1
  | [], u, h => h
  | d :: S, u, h => by
    rw [x_fl]
    by_cases hr : r ≤ t_rk d
    · rw [if_pos hr]; exact x_fl_sk S _ h.tl
    · rw [if_neg hr]; exact h
set_option maxRecDepth 20000 in
set_option maxHeartbeats 1000000 in
theorem c_once1 {l : Launch} {E : bz_E} {L : List Nat} {g : Nat → va_E} {o x n : Nat} {b : Nat → Nat} {f0 pd : Nat → Int32} {t : Tok} {e : Nat × Nat} {nm ep hs ht1 pc op : Int32} (hb : ∀ i, b i < 256) (hn : n ≤ 600) (hd : o + 3 ≤ x ∨ x + 1 ≤ o) (hX : bz_H L g x (b_In E b)) (ht : t_is b n t) (hk : k_ok t e nm ep) (hH : bz_H L g o (b_T E o x n (kE t) (kK t) (kS t) nm (nI e.1) ep hs ht1 f0 pd pc op)) : bz_K l E mX0_once 3 [.ref o, .int (nI 1)] L g (fun r g1 => r = none ∧ ∃ nm1 ep1 : Int32, bz_B L g g1 [(o, (b_T E o x n (kE (t_nx b n t)) (kK (t_nx b n t)) (kS (t_nx b n t)) nm1 (nI (if true then k_fail e 2 t else e).1) ep1 hs ht1 f0 pd pc op))] ∧ k_ok (t_nx b n t) (if true then k_fail e 2 t else e) nm1 ep1) := by
  refine bz_K.of (by decide) (bz_le rfl) (fun sz => ?_)
  have hB := bz_B.rf (bz_W.two hH hX hd)
  have hle := ht.le
  show bz_G _ _ _ _ _ _ _ _ _ _ _ _ 0 [(0, .ref o), (1, .int (nI 1))] []
  refine g_iload_n (q := 1) dX0_once_0 rfl rfl ?_
  refine g_if_eq (q := 4) (t := 9) dX0_once_1 rfl (by decide) (fun c => absurd c (by decide)) (fun _ => ?_)
  refine g_aload_n (q := 5) dX0_once_4 rfl rfl ?_
  refine g_iconst (q := 6) (v := (nI 2)) dX0_once_5 rfl (by decide) ?_
  refine gb_callV (q := 9) (j := 0) (i := 0) dX0_once_6 rfl kv_X0_114 (c_fail (t := t) (e := e) (ep := ep) (c := 2) (by decide) hk (hB.1.at (j := 0) rfl)) rfl (by decide) hB rfl rfl rfl rfl (bz_le rfl) (by decide) (by decide) (fun r g1 hQ => ?_)
  obtain ⟨rfl, ep1, h1, hk2⟩ := hQ
  have hB := hB.sp (j := 0) rfl 0 rfl h1 (bz_le rfl)
  refine g_aload_n (q := 10) dX0_once_9 rfl rfl ?_
  refine gb_callV (q := 13) (j := 0) (i := 0) dX0_once_10 rfl kv_X0_44 (c_step (p := kE t) hb hn hd (hB.1.at (j := 1) rfl) (by omega) (hB.1.at (j := 0) rfl)) rfl (by decide) hB rfl rfl rfl rfl (bz_le rfl) (by decide) (by decide) (fun r g1 hQ => ?_)
  obtain ⟨rfl, t1, nm1, h1, rfl, hk1⟩ := hQ
  have hB := hB.sp (j := 0) rfl 0 rfl h1 (bz_le rfl)
  exact g_vret dX0_once_13 rfl (⟨rfl, nm1, ep1, hB.fst hX, hk1, hk2.2⟩)
set_option maxRecDepth 20000 in
set_option maxHeartbeats 1000000 in
theorem c_once0 {l : Launch} {E : bz_E} {L : List Nat} {g : Nat → va_E} {o x n : Nat} {b : Nat → Nat} {f0 pd : Nat → Int32} {t : Tok} {e : Nat × Nat} {nm ep hs ht1 pc op : Int32} (hb : ∀ i, b i < 256) (hn : n ≤ 600) (hd : o + 3 ≤ x ∨ x + 1 ≤ o) (hX : bz_H L g x (b_In E b)) (ht : t_is b n t) (hk : k_ok t e nm ep) (hH : bz_H L g o (b_T E o x n (kE t) (kK t) (kS t) nm (nI e.1) ep hs ht1 f0 pd pc op)) : bz_K l E mX0_once 3 [.ref o, .int (nI 0)] L g (fun r g1 => r = none ∧ ∃ nm1 ep1 : Int32, bz_B L g g1 [(o, (b_T E o x n (kE (t_nx b n t)) (kK (t_nx b n t)) (kS (t_nx b n t)) nm1 (nI (if false then k_fail e 2 t else e).1) ep1 hs ht1 f0 pd pc op))] ∧ k_ok (t_nx b n t) (if false then k_fail e 2 t else e) nm1 ep1) := by
  refine bz_K.of (by decide) (bz_le rfl) (fun sz => ?_)
  have hB := bz_B.rf (bz_W.two hH hX hd)
  have hle := ht.le
  show bz_G _ _ _ _ _ _ _ _ _ _ _ _ 0 [(0, .ref o), (1, .int (nI 0))] []
  refine g_iload_n (q := 1) dX0_once_0 rfl rfl ?_
  refine g_if_eq (q := 4) (t := 9) dX0_once_1 rfl (by decide) (fun _ => ?_) (fun c => absurd (by decide) c)
  refine g_aload_n (q := 10) dX0_once_9 rfl rfl ?_
  refine gb_callV (q := 13) (j := 0) (i := 0) dX0_once_10 rfl kv_X0_44 (c_step (p := kE t) hb hn hd (hB.1.at (j := 1) rfl) (by omega) (hB.1.at (j := 0) rfl)) rfl (by decide) hB rfl rfl rfl rfl (bz_le rfl) (by decide) (by decide) (fun r g1 hQ => ?_)
  obtain ⟨rfl, t1, nm1, h1, rfl, hk1⟩ := hQ
  have hB := hB.sp (j := 0) rfl 0 rfl h1 (bz_le rfl)
  exact g_vret dX0_once_13 rfl (⟨rfl, nm1, ep, hB.fst hX, hk1, hk.2⟩)
set_option maxRecDepth 20000 in
set_option maxHeartbeats 1000000 in
theorem c_expectSemicolon {l : Launch} {E : bz_E} {L : List Nat} {g : Nat → va_E} {o x n : Nat} {b : Nat → Nat} {f0 pd : Nat → Int32} {t : Tok} {e : Nat × Nat} {nm ep hs ht1 pc op : Int32} (hb : ∀ i, b i < 256) (hn : n ≤ 600) (hd : o + 3 ≤ x ∨ x + 1 ≤ o) (hX : bz_H L g x (b_In E b)) (ht : t_is b n t) (hk : k_ok t e nm ep) (hH : bz_H L g o (b_T E o x n (kE t) (kK t) (kS t) nm (nI e.1) ep hs ht1 f0 pd pc op)) : bz_K l E mX0_expectSemicolon 3 [.ref o] L g (fun r g1 => r = none ∧ ∃ (t1 : Tok) (e1 : Nat × Nat) (nm1 ep1 : Int32), bz_B L g g1 [(o, (b_T E o x n (kE t1) (kK t1) (kS t1) nm1 (nI e1.1) ep1 hs ht1 f0 pd pc op))] ∧ k_ok t1 e1 nm1 ep1 ∧ (t1, e1) = if kK t = 59 then (t_nx b n t, e) else (t, k_fail e 1 t)) := by
  refine bz_K.of (by decide) (bz_le rfl) (fun sz => ?_)
  show bz_G _ _ _ _ _ _ _ _ _ _ _ _ 0 [(0, .ref o)] []
  have hB := bz_B.rf (bz_W.two hH hX hd)
  have hle := ht.le
  have h256 := ht.k256 hb
  refine g_aload_n (q := 1) dX0_expectSemicolon_0 rfl rfl ?_
  refine gb_getf (q := 4) (j := 0) (i := 0) dX0_expectSemicolon_1 rfl fl_X0_47 hB rfl rfl rfl rfl ?_
  refine g_bipush (q := 6) (v := (nI 59)) dX0_expectSemicolon_4 rfl (by decide) ?_
  refine g_icmpN_ne (q := 9) (t := 16) dX0_expectSemicolon_6 rfl (by decide) (by omega) (by omega) (fun c_6 => ?_) (fun c_6 => ?_)
  · refine g_aload_n (q := 17) dX0_expectSemicolon_16 rfl rfl ?_
    refine g_iconst (q := 18) (v := (nI 1)) dX0_expectSemicolon_17 rfl (by decide) ?_
    refine gb_callV (q := 21) (j := 0) (i := 0) dX0_expectSemicolon_18 rfl kv_X0_114 (c_fail (t := t) (e := e) (ep := ep) (c := 1) (by decide) hk (hB.1.at (j := 0) rfl)) rfl (by decide) hB rfl rfl rfl rfl (bz_le rfl) (by decide) (by decide) (fun r g1 hQ => ?_)
    obtain ⟨rfl, ep1, h1, hk1⟩ := hQ
    have hB := hB.sp (j := 0) rfl 0 rfl h1 (bz_le rfl)
    exact g_vret dX0_expectSemicolon_21 rfl (⟨rfl, _, _, _, _, hB.fst hX, hk1, by rw [if_neg c_6]⟩)
  · refine g_aload_n (q := 10) dX0_expectSemicolon_9 rfl rfl ?_
    refine gb_callV (q := 13) (j := 0) (i := 0) dX0_expectSemicolon_10 rfl kv_X0_44 (c_step (p := kE t) hb hn hd (hB.1.at (j := 1) rfl) (by omega) (hB.1.at (j := 0) rfl)) rfl (by decide) hB rfl rfl rfl rfl (bz_le rfl) (by decide) (by decide) (fun r g1 hQ => ?_)
    obtain ⟨rfl, t1, nm1, h1, rfl, hk1⟩ := hQ
    have hB := hB.sp (j := 0) rfl 0 rfl h1 (bz_le rfl)
    refine g_goto (q := 21) dX0_expectSemicolon_13 (by decide) ?_
    exact g_vret dX0_expectSemicolon_21 rfl (⟨rfl, _, _, _, _, hB.fst hX, ⟨hk1, hk.2⟩, by rw [if_pos c_6]; rfl⟩)
set_option maxRecDepth 20000 in
set_option maxHeartbeats 1000000 in
theorem c_setting {l : Launch} {E : bz_E} {L : List Nat} {g : Nat → va_E} {o x n : Nat} {b : Nat → Nat} {f0 pd : Nat → Int32} {t : Tok} {e : Nat × Nat} {nm ep hs hy pc op : Int32} {y N c1 c2 lo hi : Nat} {f : Nat → Int32} (hb : ∀ i, b i < 256) (hn : n ≤ 600) (hd : o + 3 ≤ x ∨ x + 1 ≤ o) (ht : t_is b n t) (hN : N = c1 * c2) (hN32 : N ≤ 32) (hc1 : 1 ≤ c1 ∧ c1 ≤ 16) (hc2 : 1 ≤ c2 ∧ c2 ≤ 16) (hlo : lo ≤ hi) (hhi : hi < 10000) (hk : k_ok t e nm ep) (hW : bz_W L g [(o, (b_T E o x n (kE t) (kK t) (kS t) nm (nI e.1) ep hs hy f0 pd pc op)), (y, [.inl (E.1.1 21, N, .inl f)]), (x, b_In E b)]) : bz_K l E mX0_setting 4 [.ref o, .ref y, .int (nI c1), .int (nI c2), .int (nI lo), .int (nI hi)] L g (fun r g1 => r = none ∧ ∃ (j v : Nat) (t4 : Tok) (e4 : Nat × Nat) (nm4 ep4 : Int32), bz_B L g g1 [(o, (b_T E o x n (kE t4) (kK t4) (kS t4) nm4 (nI e4.1) ep4 hs hy f0 pd pc op)), (y, [.inl (E.1.1 21, N, .inl (upd f j (nI v)))])] ∧ k_ok t4 e4 nm4 ep4 ∧ t_is b n t4 ∧ k_set b n c1 c2 lo hi (t_nx b n t) e = (j, v, t4, e4)) := by
  refine bz_K.of (by decide) (bz_le rfl) (fun sz => ?_)
  show bz_G _ _ _ _ _ _ _ _ _ _ _ _ 0 [(0, .ref o), (1, .ref y), (2, .int (nI c1)), (3, .int (nI c2)), (4, .int (nI lo)), (5, .int (nI hi))] []
  have hB := bz_B.rf hW
  have hle := ht.le
  refine g_aload_n (q := 1) dX0_setting_0 rfl rfl ?_
  refine gb_callV (q := 4) (j := 0) (i := 0) dX0_setting_1 rfl kv_X0_44 (c_step (p := kE t) hb hn hd (hB.1.at (j := 2) rfl) (by omega) (hB.1.at (j := 0) rfl)) rfl (by decide) hB rfl rfl rfl rfl (bz_le rfl) (by decide) (by decide) (fun r g1 hQ => ?_)
  obtain ⟨rfl, t1, nm1, h1, ht1, hk1⟩ := hQ
  have hB := hB.sp (j := 0) rfl 0 rfl h1 (bz_le rfl)
  have hk1 : k_ok t1 e nm1 ep := ⟨hk1, hk.2⟩
  have htn : t1 = t_nx b n t := ht1
  have ht1 : t_is b n t1 := by rw [htn]; exact (t_nx_is ht).1
  refine g_aload_n (q := 5) dX0_setting_4 rfl rfl ?_
  refine g_iconst (q := 6) (v := (nI 0)) dX0_setting_5 rfl (by decide) ?_
  refine g_iload_n (q := 7) dX0_setting_6 rfl rfl ?_
  refine g_iconst (q := 8) (v := (nI 1)) dX0_setting_7 rfl (by decide) ?_
  refine g_isubN (q := 9) dX0_setting_8 rfl (by omega) ?_
  refine gb_callV (q := 12) (j := 0) (i := 0) dX0_setting_9 rfl kv_X0_89 (c_numberIn (t := t1) (e := e) (nm := nm1) (ep := ep) (lo := 0) (hi := c1 - 1) hb hn hd (hB.1.at (j := 2) rfl) ht1 (by omega) (by omega) hk1 (hB.1.at (j := 0) rfl)) rfl (by decide) hB rfl rfl rfl rfl (bz_le rfl) (by decide) (by decide) (fun r g1 hQ => ?_)
  obtain ⟨v1, t2, e2, nm2, ep2, rfl, h1, hn1, hk2⟩ := hQ
  have hB := hB.sp (j := 0) rfl 0 rfl h1 (bz_le rfl)
  have hb1 := k_num_b (b := b) (n := n) (lo := 0) (hi := c1 - 1) (t := t1) (e := e) (by omega) ht1 hk1.2.2
  rw [hn1] at hb1
  have ht2 := hb1.2.2.1
  refine g_istore (q := 14) dX0_setting_12 rfl (by decide) rfl ?_
  refine g_aload_n (q := 15) dX0_setting_14 rfl rfl ?_
  refine g_iconst (q := 16) (v := (nI 0)) dX0_setting_15 rfl (by decide) ?_
  refine g_iload_n (q := 17) dX0_setting_16 rfl rfl ?_
  refine g_iconst (q := 18) (v := (nI 1)) dX0_setting_17 rfl (by decide) ?_
  refine g_isubN (q := 19) dX0_setting_18 rfl (by omega) ?_
  refine gb_callV (q := 22) (j := 0) (i := 0) dX0_setting_19 rfl kv_X0_89 (c_numberIn (t := t2) (e := e2) (nm := nm2) (ep := ep2) (lo := 0) (hi := c2 - 1) hb hn hd (hB.1.at (j := 2) rfl) ht2 (by omega) (by omega) hk2 (hB.1.at (j := 0) rfl)) rfl (by decide) hB rfl rfl rfl rfl (bz_le rfl) (by decide) (by decide) (fun r g1 hQ => ?_)
  obtain ⟨v2, t3, e3, nm3, ep3, rfl, h1, hn2, hk3⟩ := hQ
  have hB := hB.sp (j := 0) rfl 0 rfl h1 (bz_le rfl)
  have hb2 := k_num_b (b := b) (n := n) (lo := 0) (hi := c2 - 1) (t := t2) (e := e2) (by omega) ht2 hk2.2.2
  rw [hn2] at hb2
  have ht3 := hb2.2.2.1
  refine g_istore (q := 24) dX0_setting_22 rfl (by decide) rfl ?_
  refine g_aload_n (q := 25) dX0_setting_24 rfl rfl ?_
  refine g_iload (q := 27) dX0_setting_25 rfl rfl ?_
  refine g_iload (q := 29) dX0_setting_27 rfl rfl ?_
  refine gb_callV (q := 32) (j := 0) (i := 0) dX0_setting_29 rfl kv_X0_89 (c_numberIn (t := t3) (e := e3) (nm := nm3) (ep := ep3) (lo := lo) (hi := hi) hb hn hd (hB.1.at (j := 2) rfl) ht3 (by omega) (by omega) hk3 (hB.1.at (j := 0) rfl)) rfl (by decide) hB rfl rfl rfl rfl (bz_le rfl) (by decide) (by decide) (fun r g1 hQ => ?_)
  obtain ⟨v3, t4, e4, nm4, ep4, rfl, h1, hn3, hk4⟩ := hQ
  have hB := hB.sp (j := 0) rfl 0 rfl h1 (bz_le rfl)
  have hb3 := k_num_b (b := b) (n := n) (lo := lo) (hi := hi) (t := t3) (e := e3) (by omega) ht3 hk3.2.2
  rw [hn3] at hb3
  have ht4 := hb3.2.2.1
  refine g_istore (q := 34) dX0_setting_32 rfl (by decide) rfl ?_
  have hj : v1 * c2 + v2 < N := by
    rw [hN]
    have h3 : v1 * c2 ≤ (c1 - 1) * c2 := Nat.mul_le_mul_right c2 hb1.2.1
    have h4 : (c1 - 1) * c2 + c2 = c1 * c2 := by
      rw [← Nat.succ_mul]
      congr 1
      omega
    have h5 := hb2.2.1
    omega
  refine g_iload (q := 36) dX0_setting_34 rfl rfl ?_
  refine g_iload_n (q := 37) dX0_setting_36 rfl rfl ?_
  refine g_imulN (q := 38) dX0_setting_37 rfl ?_
  refine g_iload (q := 40) dX0_setting_38 rfl rfl ?_
  refine g_iaddN (q := 41) dX0_setting_40 rfl ?_
  refine g_istore (q := 43) dX0_setting_41 rfl (by decide) rfl ?_
  refine g_iload (q := 45) dX0_setting_43 rfl rfl ?_
  refine g_ifN_lt (q := 48) (t := 61) dX0_setting_45 rfl (by decide) (by omega) ?_
  refine g_iload (q := 50) dX0_setting_48 rfl rfl ?_
  refine g_aload_n (q := 51) dX0_setting_50 rfl rfl ?_
  refine gb_alen (q := 52) (j := 1) (i := 0) (t0 := 1) dX0_setting_51 rfl hB rfl rfl rfl rfl ?_
  refine g_icmpN_ge (q := 55) (t := 61) dX0_setting_52 rfl (by decide) (by omega) (by omega) (fun c => absurd c (by omega)) (fun _ => ?_)
  refine g_aload_n (q := 56) dX0_setting_55 rfl rfl ?_
  refine g_iload (q := 58) dX0_setting_56 rfl rfl ?_
  refine g_iload (q := 60) dX0_setting_58 rfl rfl ?_
  refine gb_iastN (q := 61) (j := 1) (i := 0) dX0_setting_60 rfl hB rfl rfl rfl (hj) (by omega) (fun g hB => ?_)
  exact g_vret dX0_setting_61 rfl (⟨rfl, v1 * c2 + v2, v3, t4, e4, nm4, ep4, bz_B.last (bs := [_, _]) hB (hW.1 (x, b_In E b) (List.mem_cons_of_mem _ (List.mem_cons_of_mem _ List.mem_cons_self))), hk4, hb3.2.2.1, by rw [← htn]; exact k_set_of hn1 hn2 hn3⟩)
set_option maxRecDepth 20000 in
set_option maxHeartbeats 1000000 in
theorem c_push {l : Launch} {E : bz_E} {L : List Nat} {g : Nat → va_E} {o x n af tk tp m : Nat} {nm er ep hs ht op v : Int32} {f0 pd : Nat → Int32} (hm : m < 24) (hH : bz_H L g o (b_T E o x n af tk tp nm er ep hs ht f0 pd (nI m) op)) : bz_K l E mX0_push 0 [.ref o, .int v] L g (fun r g1 => r = none ∧ bz_B L g g1 [(o, (b_T E o x n af tk tp nm er ep hs ht f0 (upd pd m v) (nI (m + 1)) op))]) := by
  refine bz_K.of (by decide) (bz_le rfl) (fun sz => ?_)
  have hB := bz_B.rf (bz_W.one hH)
  show bz_G _ _ _ _ _ _ _ _ _ _ _ _ 0 [(0, .ref o), (1, .int v)] []
  refine g_aload_n (q := 1) dX0_push_0 rfl rfl ?_
  refine gb_getf (q := 4) (j := 0) (i := 0) dX0_push_1 rfl fl_X0_126 hB rfl rfl rfl rfl ?_
  refine g_ifN_lt (q := 7) (t := 39) dX0_push_4 rfl (by decide) (by omega) ?_
  refine g_aload_n (q := 8) dX0_push_7 rfl rfl ?_
  refine gb_getf (q := 11) (j := 0) (i := 0) dX0_push_8 rfl fl_X0_126 hB rfl rfl rfl rfl ?_
  refine g_aload_n (q := 12) dX0_push_11 rfl rfl ?_
  refine gb_getf (q := 15) (j := 0) (i := 0) dX0_push_12 rfl fl_X0_15 hB rfl rfl rfl rfl ?_
  refine gb_alen (q := 16) (j := 0) (i := 2) (t0 := 1) dX0_push_15 rfl hB rfl rfl rfl rfl ?_
  refine g_icmpN_ge (q := 19) (t := 39) dX0_push_16 rfl (by decide) (by omega) (by omega) (fun c => absurd c (by omega)) (fun _ => ?_)
  refine g_aload_n (q := 20) dX0_push_19 rfl rfl ?_
  refine gb_getf (q := 23) (j := 0) (i := 0) dX0_push_20 rfl fl_X0_15 hB rfl rfl rfl rfl ?_
  refine g_aload_n (q := 24) dX0_push_23 rfl rfl ?_
  refine gb_getf (q := 27) (j := 0) (i := 0) dX0_push_24 rfl fl_X0_126 hB rfl rfl rfl rfl ?_
  refine g_iload_n (q := 28) dX0_push_27 rfl rfl ?_
  refine gb_iastN (q := 29) (j := 0) (i := 2) dX0_push_28 rfl hB rfl rfl rfl (by omega) (by decide) (fun g hB => ?_)
  refine g_aload_n (q := 30) dX0_push_29 rfl rfl ?_
  refine g_dup (q := 31) dX0_push_30 rfl rfl ?_
  refine gb_getf (q := 34) (j := 0) (i := 0) dX0_push_31 rfl fl_X0_126 hB rfl rfl rfl rfl ?_
  refine g_iconst (q := 35) (v := (nI 1)) dX0_push_34 rfl (by decide) ?_
  refine g_iaddN (q := 36) dX0_push_35 rfl ?_
  refine gb_putf (q := 39) (j := 0) (i := 0) dX0_push_36 rfl fp_X0_126 hB rfl rfl rfl (bz_le rfl) rfl rfl (fun g hB => ?_)
  exact g_vret dX0_push_39 rfl (⟨rfl, hB⟩)
set_option maxRecDepth 20000 in
set_option maxHeartbeats 1000000 in
theorem c_addPending {l : Launch} {E : bz_E} {L : List Nat} {g : Nat → va_E} {o x n af tk tp y r0 : Nat} {nm er ep hs ht op : Int32} {f0 pd v0 it : Nat → Int32} {S : List Nat} {u : List Int32} (hr : 1 ≤ r0 ∧ r0 ≤ 2) (hS : ∀ c ∈ S, c < 256) (hS24 : S.length ≤ 24) (hl : u.length + S.length ≤ 600) (hsk : k_sk pd S) (hit : k_it it u) (hW : bz_W L g [(o, (b_T E o x n af tk tp nm er ep hs ht f0 pd (nI S.length) op)), (y, b_Sum E y v0 it (nI u.length))]) : bz_K l E mX0_addPending 1 [.ref o, .ref y, .int (nI r0)] L g (fun r g1 => r = none ∧ ∃ it1 : Nat → Int32, bz_B L g g1 [(o, (b_T E o x n af tk tp nm er ep hs ht f0 pd (nI (x_fl r0 S u).1.length) op)), (y, b_Sum E y v0 it1 (nI (x_fl r0 S u).2.length))] ∧ k_it it1 (x_fl r0 S u).2) := by
  refine bz_K.of (by decide) (bz_le rfl) (fun sz => ?_)
  show bz_G _ _ _ _ _ _ _ _ _ _ _ _ 0 [(0, .ref o), (1, .ref y), (2, .int (nI r0))] []
  have hB := bz_B.rf hW
  have K : ∀ (S1 : List Nat) (u1 : List Int32) (it1 : Nat → Int32) (g1 : Nat → va_E), (∀ c ∈ S1, c < 256) → S1.length ≤ 24 → u1.length + S1.length ≤ 600 → k_sk pd S1 → k_it it1 u1 → x_fl r0 S1 u1 = x_fl r0 S u → bz_B L g g1 [(o, (b_T E o x n af tk tp nm er ep hs ht f0 pd (nI S1.length) op)), (y, b_Sum E y v0 it1 (nI u1.length))] → bz_G l E mX0_addPending (bz_R 1 0 0) L sz (bz_Fm E L sz (fun r g1 => r = none ∧ ∃ it1 : Nat → Int32, bz_B L g g1 [(o, (b_T E o x n af tk tp nm er ep hs ht f0 pd (nI (x_fl r0 S u).1.length) op)), (y, b_Sum E y v0 it1 (nI (x_fl r0 S u).2.length))] ∧ k_it it1 (x_fl r0 S u).2)) sz 0 0 L g1 7 [(3, .int (nI S1.length - nI 1)), (0, .ref o), (1, .ref y), (2, .int (nI r0))] [] := by
    intro S1
    induction S1 with
    | nil =>
      intro u1 it1 g2 _ _ _ _ hit1 hx hB
      refine g_iload_n (q := 8) dX0_addPending_7 rfl rfl ?_
      refine g_if_lt (q := 11) (t := 50) dX0_addPending_8 rfl (by decide) (fun _ => ?_) (fun c => absurd (show nI 0 - nI 1 < 0 by decide) c)
      refine g_vret dX0_addPending_50 rfl ?_
      rw [← hx]
      exact ⟨rfl, it1, hB, hit1⟩
    | cons c S1 ih =>
      intro u1 it1 g2 hc1 h24 hl1 hsk1 hit1 hx hB
      have h24 : S1.length + 1 ≤ 24 := h24
      have hl1 : u1.length + (S1.length + 1) ≤ 600 := hl1
      rw [show nI (c :: S1).length - nI 1 = nI S1.length from (bz_subI (show 1 ≤ S1.length + 1 by omega))]
      refine g_iload_n (q := 8) dX0_addPending_7 rfl rfl ?_
      refine g_ifN_lt (q := 11) (t := 50) dX0_addPending_8 rfl (by decide) (by omega) ?_
      refine g_aload_n (q := 12) dX0_addPending_11 rfl rfl ?_
      refine gb_getf (q := 15) (j := 0) (i := 0) dX0_addPending_12 rfl fl_X0_15 hB rfl rfl rfl rfl ?_
      refine g_iload_n (q := 16) dX0_addPending_15 rfl rfl ?_
      refine g_callN (q := 19) dX0_addPending_16 rfl kn_X0_163 rfl (c_cellOf (i := S1.length) (by omega) (by decide) ((hB.1.at (j := 0) rfl).sub 2 rfl)) (by decide) rfl (bz_le rfl) (by decide) (by decide) (fun r g1 hQ => ?_)
      obtain ⟨rfl, hg⟩ := hQ
      have hg := hg.symm
      subst hg
      refine g_eqi (v := nI c) (hsk1.hd) ?_
      refine g_callS (q := 22) dX0_addPending_19 rfl ks_X0_135 rfl (c_rankOf (v := nI c)) (by decide) rfl (bz_le rfl) (by decide) (by decide) (fun r g1 hQ => ?_)
      obtain ⟨rfl, hg⟩ := hQ
      have hg := hg.symm
      subst hg
      refine g_eqi (v := nI (t_rk c)) (k_rk_c c (hc1 c List.mem_cons_self)) ?_
      refine g_iload_n (q := 23) dX0_addPending_22 rfl rfl ?_
      refine g_icmpN_lt (q := 26) (t := 50) dX0_addPending_23 rfl (by decide) (by have := t_rk_le c; omega) (by omega) (fun c_23 => ?_) (fun c_23 => ?_)
      · exact g_vret dX0_addPending_50 rfl (by rw [x_fl, if_neg (by omega)] at hx; rw [← hx]; exact ⟨rfl, it1, hB, hit1⟩)
      · refine g_aload_n (q := 27) dX0_addPending_26 rfl rfl ?_
        refine g_aload_n (q := 28) dX0_addPending_27 rfl rfl ?_
        refine gb_getf (q := 31) (j := 0) (i := 0) dX0_addPending_28 rfl fl_X0_15 hB rfl rfl rfl rfl ?_
        refine g_iload_n (q := 32) dX0_addPending_31 rfl rfl ?_
        refine g_callN (q := 35) dX0_addPending_32 rfl kn_X0_163 rfl (c_cellOf (i := S1.length) (by omega) (by decide) ((hB.1.at (j := 0) rfl).sub 2 rfl)) (by decide) rfl (bz_le rfl) (by decide) (by decide) (fun r g1 hQ => ?_)
        obtain ⟨rfl, hg⟩ := hQ
        have hg := hg.symm
        subst hg
        refine g_eqi (v := nI c) (hsk1.hd) ?_
        refine g_ineg (q := 36) dX0_addPending_35 rfl ?_
        refine gb_callV (q := 39) (j := 1) (i := 0) dX0_addPending_36 rfl kv_X0_152 (c_sadd (n := u1.length) (x := -(nI c)) (by omega) (hB.1.at (j := 1) rfl)) rfl (by decide) hB rfl rfl rfl rfl (bz_le rfl) (by decide) (by decide) (fun r g1 hQ => ?_)
        obtain ⟨rfl, h1⟩ := hQ
        have hB := hB.sp (j := 1) rfl 0 rfl h1 (bz_le rfl)
        refine g_aload_n (q := 40) dX0_addPending_39 rfl rfl ?_
        refine g_iload_n (q := 41) dX0_addPending_40 rfl rfl ?_
        refine gb_putf (q := 44) (j := 0) (i := 0) dX0_addPending_41 rfl fp_X0_126 hB rfl rfl rfl (bz_le rfl) rfl rfl (fun g hB => ?_)
        refine g_iinc (q := 47) dX0_addPending_44 rfl (by decide) rfl rfl rfl ?_
        refine g_goto (q := 7) dX0_addPending_47 (by decide) ?_
        rw [i32_m1]
        refine g_lvs (lv1 := [(3, .int (nI S1.length - nI 1)), (0, .ref o), (1, .ref y), (2, .int (nI r0))]) ⟨rfl, rfl, rfl, rfl, trivial⟩ ?_
        rw [x_fl, if_pos c_23] at hx
        exact ih (u1 ++ [-(nI c)]) _ _ (fun d hd => hc1 d (List.mem_cons_of_mem _ hd)) (by omega) (by rw [List.length_append]; show u1.length + 1 + S1.length ≤ 600; omega) hsk1.tl hit1.app hx (by rw [List.length_append]; exact hB)
  refine g_aload_n (q := 1) dX0_addPending_0 rfl rfl ?_
  refine gb_getf (q := 4) (j := 0) (i := 0) dX0_addPending_1 rfl fl_X0_126 hB rfl rfl rfl rfl ?_
  refine g_iconst (q := 5) (v := (nI 1)) dX0_addPending_4 rfl (by decide) ?_
  refine g_isub (q := 6) dX0_addPending_5 rfl ?_
  refine g_istore_n (q := 7) rfl dX0_addPending_6 rfl (by decide) rfl ?_
  refine g_lvs (lv1 := [(3, .int (nI S.length - nI 1)), (0, .ref o), (1, .ref y), (2, .int (nI r0))]) ⟨rfl, rfl, rfl, rfl, trivial⟩ ?_
  exact K S u it _ hS hS24 hl hsk hit rfl hB
set_option maxRecDepth 20000 in
set_option maxHeartbeats 1000000 in
theorem c_openBracket0 {l : Launch} {E : bz_E} {L : List Nat} {g : Nat → va_E} {o x n af tk tp m k : Nat} {nm er ep hs ht : Int32} {f0 pd : Nat → Int32} (hm : m < 24) (hk : k < 5) (hH : bz_H L g o (b_T E o x n af tk tp nm er ep hs ht f0 pd (nI m) (nI k))) : bz_K l E mX0_openBracket 1 [.ref o] L g (fun r g1 => r = none ∧ bz_B L g g1 [(o, (b_T E o x n af tk tp nm er ep hs ht f0 (upd pd m (nI 40)) (nI (m + 1)) (nI (k + 1))))]) := by
  refine bz_K.of (by decide) (bz_le rfl) (fun sz => ?_)
  have hB := bz_B.rf (bz_W.one hH)
  show bz_G _ _ _ _ _ _ _ _ _ _ _ _ 0 [(0, .ref o)] []
  refine g_aload_n (q := 1) dX0_openBracket_0 rfl rfl ?_
  refine gb_getf (q := 4) (j := 0) (i := 0) dX0_openBracket_1 rfl fl_X0_129 hB rfl rfl rfl rfl ?_
  refine g_iconst (q := 5) (v := (nI 5)) dX0_openBracket_4 rfl (by decide) ?_
  refine g_icmpN_lt (q := 8) (t := 16) dX0_openBracket_5 rfl (by decide) (by omega) (by omega) (fun _ => ?_) (fun c => absurd c (by omega))
  refine g_aload_n (q := 17) dX0_openBracket_16 rfl rfl ?_
  refine g_dup (q := 18) dX0_openBracket_17 rfl rfl ?_
  refine gb_getf (q := 21) (j := 0) (i := 0) dX0_openBracket_18 rfl fl_X0_129 hB rfl rfl rfl rfl ?_
  refine g_iconst (q := 22) (v := (nI 1)) dX0_openBracket_21 rfl (by decide) ?_
  refine g_iaddN (q := 23) dX0_openBracket_22 rfl ?_
  refine gb_putf (q := 26) (j := 0) (i := 0) dX0_openBracket_23 rfl fp_X0_129 hB rfl rfl rfl (bz_le rfl) rfl rfl (fun g hB => ?_)
  refine g_aload_n (q := 27) dX0_openBracket_26 rfl rfl ?_
  refine g_bipush (q := 29) (v := (nI 40)) dX0_openBracket_27 rfl (by decide) ?_
  refine gb_callV (q := 32) (j := 0) (i := 0) dX0_openBracket_29 rfl kv_X0_143 (c_push (m := m) (v := nI 40) hm (hB.1.at (j := 0) rfl)) rfl (by decide) hB rfl rfl rfl rfl (bz_le rfl) (by decide) (by decide) (fun r g1 hQ => ?_)
  obtain ⟨rfl, h1⟩ := hQ
  have hB := hB.sp (j := 0) rfl 0 rfl h1 (bz_le rfl)
  exact g_vret dX0_openBracket_32 rfl (⟨rfl, hB⟩)
set_option maxRecDepth 20000 in
set_option maxHeartbeats 1000000 in
theorem c_openBracket1 {l : Launch} {E : bz_E} {L : List Nat} {g : Nat → va_E} {o x n k : Nat} {f0 pd : Nat → Int32} {t : Tok} {e : Nat × Nat} {nm ep hs ht1 pc : Int32} (hk5 : 5 ≤ k ∧ k < 100) (hk : k_ok t e nm ep) (hH : bz_H L g o (b_T E o x n (kE t) (kK t) (kS t) nm (nI e.1) ep hs ht1 f0 pd pc (nI k))) : bz_K l E mX0_openBracket 1 [.ref o] L g (fun r g1 => r = none ∧ ∃ ep1 : Int32, bz_B L g g1 [(o, (b_T E o x n (kE t) (kK t) (kS t) nm (nI (k_fail e 4 t).1) ep1 hs ht1 f0 pd pc (nI k)))] ∧ k_ok t (k_fail e 4 t) nm ep1) := by
  refine bz_K.of (by decide) (bz_le rfl) (fun sz => ?_)
  have hB := bz_B.rf (bz_W.one hH)
  show bz_G _ _ _ _ _ _ _ _ _ _ _ _ 0 [(0, .ref o)] []
  refine g_aload_n (q := 1) dX0_openBracket_0 rfl rfl ?_
  refine gb_getf (q := 4) (j := 0) (i := 0) dX0_openBracket_1 rfl fl_X0_129 hB rfl rfl rfl rfl ?_
  refine g_iconst (q := 5) (v := (nI 5)) dX0_openBracket_4 rfl (by decide) ?_
  refine g_icmpN_lt (q := 8) (t := 16) dX0_openBracket_5 rfl (by decide) (by omega) (by omega) (fun c => absurd c (by omega)) (fun _ => ?_)
  refine g_aload_n (q := 9) dX0_openBracket_8 rfl rfl ?_
  refine g_iconst (q := 10) (v := (nI 4)) dX0_openBracket_9 rfl (by decide) ?_
  refine gb_callV (q := 13) (j := 0) (i := 0) dX0_openBracket_10 rfl kv_X0_114 (c_fail (t := t) (e := e) (ep := ep) (c := 4) (by decide) hk (hB.1.at (j := 0) rfl)) rfl (by decide) hB rfl rfl rfl rfl (bz_le rfl) (by decide) (by decide) (fun r g1 hQ => ?_)
  obtain ⟨rfl, ep1, h1, hk1⟩ := hQ
  have hB := hB.sp (j := 0) rfl 0 rfl h1 (bz_le rfl)
  refine g_goto (q := 32) dX0_openBracket_13 (by decide) ?_
  exact g_vret dX0_openBracket_32 rfl (⟨rfl, ep1, hB, hk1⟩)
set_option maxRecDepth 20000 in
set_option maxHeartbeats 1000000 in
theorem c_closeBracket {l : Launch} {E : bz_E} {L : List Nat} {g : Nat → va_E} {o x n af tk tp y k : Nat} {nm er ep hs ht : Int32} {f0 pd v0 it : Nat → Int32} {S S1 : List Nat} {u : List Int32} (hk : 1 ≤ k ∧ k < 100) (hf : (x_fl 1 S u).1 = 40 :: S1) (hS1 : S1.length < 100) (hS : ∀ c ∈ S, c < 256) (hS24 : S.length ≤ 24) (hl : u.length + S.length ≤ 600) (hsk : k_sk pd S) (hit : k_it it u) (hW : bz_W L g [(o, (b_T E o x n af tk tp nm er ep hs ht f0 pd (nI S.length) (nI k))), (y, b_Sum E y v0 it (nI u.length))]) : bz_K l E mX0_closeBracket 2 [.ref o, .ref y] L g (fun r g1 => r = none ∧ ∃ it1 : Nat → Int32, bz_B L g g1 [(o, (b_T E o x n af tk tp nm er ep hs ht f0 pd (nI (x_fl 1 S u).1.tail.length) (nI (k - 1)))), (y, b_Sum E y v0 it1 (nI (x_fl 1 S u).2.length))] ∧ k_it it1 (x_fl 1 S u).2) := by
  refine bz_K.of (by decide) (bz_le rfl) (fun sz => ?_)
  show bz_G _ _ _ _ _ _ _ _ _ _ _ _ 0 [(0, .ref o), (1, .ref y)] []
  have hB := bz_B.rf hW
  refine g_aload_n (q := 1) dX0_closeBracket_0 rfl rfl ?_
  refine g_aload_n (q := 2) dX0_closeBracket_1 rfl rfl ?_
  refine g_iconst (q := 3) (v := (nI 1)) dX0_closeBracket_2 rfl (by decide) ?_
  refine gb_callV (q := 6) (j := 0) (i := 0) dX0_closeBracket_3 rfl kv_X0_139 (c_addPending (r0 := 1) (by decide) hS hS24 hl hsk hit hB.1) rfl (by decide) hB rfl rfl rfl rfl (bz_le rfl) (by decide) (by decide) (fun r g1 hQ => ?_)
  obtain ⟨rfl, it1, hB, hit1⟩ := hQ
  refine g_aload_n (q := 7) dX0_closeBracket_6 rfl rfl ?_
  refine gb_getf (q := 10) (j := 0) (i := 0) dX0_closeBracket_7 rfl fl_X0_126 hB rfl rfl rfl rfl ?_
  refine g_eqi (v := nI (S1.length + 1)) (by rw [hf]; rfl) ?_
  refine g_ifN_le (q := 13) (t := 23) dX0_closeBracket_10 rfl (by decide) (by omega) (fun c => absurd c (by omega)) (fun _ => ?_)
  refine g_aload_n (q := 14) dX0_closeBracket_13 rfl rfl ?_
  refine g_dup (q := 15) dX0_closeBracket_14 rfl rfl ?_
  refine gb_getf (q := 18) (j := 0) (i := 0) dX0_closeBracket_15 rfl fl_X0_126 hB rfl rfl rfl rfl ?_
  refine g_eqi (v := nI (S1.length + 1)) (by rw [hf]; rfl) ?_
  refine g_iconst (q := 19) (v := (nI 1)) dX0_closeBracket_18 rfl (by decide) ?_
  refine g_isubN (q := 20) dX0_closeBracket_19 rfl (by omega) ?_
  refine gb_putf (q := 23) (j := 0) (i := 0) dX0_closeBracket_20 rfl fp_X0_126 hB rfl rfl rfl (bz_le rfl) rfl rfl (fun g hB => ?_)
  refine g_aload_n (q := 24) dX0_closeBracket_23 rfl rfl ?_
  refine g_dup (q := 25) dX0_closeBracket_24 rfl rfl ?_
  refine gb_getf (q := 28) (j := 0) (i := 0) dX0_closeBracket_25 rfl fl_X0_129 hB rfl rfl rfl rfl ?_
  refine g_iconst (q := 29) (v := (nI 1)) dX0_closeBracket_28 rfl (by decide) ?_
  refine g_isubN (q := 30) dX0_closeBracket_29 rfl (by omega) ?_
  refine gb_putf (q := 33) (j := 0) (i := 0) dX0_closeBracket_30 rfl fp_X0_129 hB rfl rfl rfl (bz_le rfl) rfl rfl (fun g hB => ?_)
  exact g_vret dX0_closeBracket_33 rfl (⟨rfl, it1, by rw [hf]; exact hB, hit1⟩)
