/-! class BridgeText: words, errors, numbers, the stack -/
def w_i (i : Nat) : List Nat := [w_buffer, w_credit, w_table, w_word, w_latency, w_split, w_tags, w_kind, w_address, w_words, w_tick].getD i []
theorem w_i_len : ∀ i, i < 11 → (w_i i).length = bz_len.getD i 0 := by decide +kernel
theorem w_i_at : ∀ i, i < 11 → ∀ k, k < bz_len.getD i 0 → (bz_byt.getD i []).getD k 0 = nI ((w_i i).getD k 0) ∧ (w_i i).getD k 0 < 128 := by decide +kernel
theorem s8_inj {c d : Nat} (hc : c < 256) (hd : d < 128) (h : s8 c = nI d) : c = d := by
  have h1 := s8_and c hc
  rw [h, ← s8_lt d hd, s8_and d (by omega)] at h1
  exact ((nI_eq (by omega) (by omega)).mp h1).symm
theorem t_ext {b : Nat → Nat} {w : List Nat} {s j : Nat} (hj : ∀ z, z < j → b (s + z) = w.getD z 0) (h : b (s + j) = w.getD j 0) : ∀ z, z < j + 1 → b (s + z) = w.getD z 0 := fun z hz => by
  rcases Nat.lt_or_ge z j with q | q
  · exact hj z q
  · rw [show z = j by omega]; exact h
theorem t_wd_0 {b : Nat → Nat} {t : Tok} {w : List Nat} (h : ¬ (kK t = 2 ∧ kE t - kS t = w.length ∧ ∀ i, i < w.length → b (kS t + i) = w.getD i 0)) : t_wd b t w = false := by
  cases hb : t_wd b t w with
  | false => rfl
  | true =>
    exfalso
    apply h
    have hk := t_wd_k hb
    refine ⟨hk.1, hk.2, fun i hi => ?_⟩
    unfold t_wd at hb
    simp only [Bool.and_eq_true, beq_iff_eq, decide_eq_true_eq] at hb
    have := List.all_eq_true.mp hb.2 i (List.mem_range.mpr hi)
    simpa using this
theorem t_wd_1 {b : Nat → Nat} {t : Tok} {w : List Nat} (h1 : kK t = 2) (h2 : kE t - kS t = w.length) (h3 : ∀ i, i < w.length → b (kS t + i) = w.getD i 0) : t_wd b t w = true := by
  unfold t_wd
  simp only [Bool.and_eq_true, beq_iff_eq, decide_eq_true_eq]
  refine ⟨⟨h1, h2⟩, List.all_eq_true.mpr (fun i hi => ?_)⟩
  have := h3 i (List.mem_range.mp hi)
  simpa using this
/-- the first error stays -/
def k_fail (e : Nat × Nat) (c : Nat) (t : Tok) : Nat × Nat := if e.1 = 0 then (c, kS t) else e
def k_num (b : Nat → Nat) (n lo hi : Nat) (t : Tok) (e : Nat × Nat) : Nat × Tok × (Nat × Nat) := if kK t = 3 then (if lo ≤ kN t ∧ kN t ≤ hi then (kN t, t_nx b n t, e) else (lo, t, k_fail e 3 t)) else (lo, t, k_fail e 1 t)
/-- what the object's numbers say of token and error -/
def k_ok (t : Tok) (e : Nat × Nat) (nm ep : Int32) : Prop := (kK t = 3 → nm = nI (kN t)) ∧ (e.1 ≠ 0 → ep = nI e.2) ∧ e.1 ≤ 4
theorem k_num_b {b : Nat → Nat} {n lo hi : Nat} {t : Tok} {e : Nat × Nat} (h : lo ≤ hi) (ht : t_is b n t) (he : e.1 ≤ 4) : lo ≤ (k_num b n lo hi t e).1 ∧ (k_num b n lo hi t e).1 ≤ hi ∧ t_is b n (k_num b n lo hi t e).2.1 ∧ (k_num b n lo hi t e).2.2.1 ≤ 4 := by
  have hf : ∀ c, c ≤ 4 → (k_fail e c t).1 ≤ 4 := fun c hc => by unfold k_fail; split <;> assumption
  unfold k_num
  split
  · split
    · rename_i h2
      exact ⟨h2.1, h2.2, (t_nx_is ht).1, he⟩
    · exact ⟨Nat.le_refl _, h, ht, hf 3 (by decide)⟩
  · exact ⟨Nat.le_refl _, h, ht, hf 1 (by decide)⟩
/-- behind an error all numbers keep it -/
theorem k_num_e {b : Nat → Nat} {n lo hi : Nat} {t : Tok} {e : Nat × Nat} (h : e.1 ≠ 0) : (k_num b n lo hi t e).2.2 = e := by
  unfold k_num k_fail
  rw [if_neg h, if_neg h]
  split
  · split <;> rfl
  · rfl
theorem k_num_l {b : Nat → Nat} {n lo hi : Nat} {t : Tok} {e : Nat × Nat} {q : Nat × Tok} (h : p_num b n lo hi t = .inl q) : k_num b n lo hi t e = (q.1, q.2, e) := by
  unfold p_num at h
  unfold k_num
  by_cases h1 : kK t = 3
  · rw [if_pos h1] at h ⊢
    by_cases h2 : lo ≤ kN t ∧ kN t ≤ hi
    · rw [if_pos h2] at h ⊢; cases h; rfl
    · rw [if_neg h2] at h; cases h
  · rw [if_neg h1] at h; cases h
theorem k_num_r {b : Nat → Nat} {n lo hi : Nat} {t : Tok} {e z : Nat × Nat} (he : e.1 = 0) (h : p_num b n lo hi t = .inr z) : (k_num b n lo hi t e).2.2 = z := by
  unfold p_num at h
  unfold k_num k_fail
  rw [if_pos he, if_pos he]
  by_cases h1 : kK t = 3
  · rw [if_pos h1] at h ⊢
    by_cases h2 : lo ≤ kN t ∧ kN t ≤ hi
    · rw [if_pos h2] at h; cases h
    · rw [if_neg h2] at h ⊢; cases h; rfl
  · rw [if_neg h1] at h ⊢; cases h; rfl
set_option maxRecDepth 20000 in
set_option maxHeartbeats 1000000 in
theorem c_isWord {l : Launch} {E : bz_E} {L : List Nat} {g : Nat → va_E} {o x n : Nat} {b : Nat → Nat} {f0 pd : Nat → Int32} {t : Tok} {i : Nat} {nm er ep hs ht1 pc op : Int32} (hb : ∀ i, b i < 256) (hn : n ≤ 600) (hd : o + 3 ≤ x ∨ x + 1 ≤ o) (hX : bz_H L g x (b_In E b)) (hi : i < 11) (ht : t_is b n t) (hH : bz_H L g o (b_T E o x n (kE t) (kK t) (kS t) nm er ep hs ht1 f0 pd pc op)) : bz_K l E mX0_isWord 4 [.ref o, .ref (E.2.1 i)] L g (fun r g1 => r = some (.int (tB (t_wd b t (w_i i)))) ∧ g1 = g) := by
  refine bz_K.of (by decide) (bz_le rfl) (fun sz => ?_)
  show bz_G _ _ _ _ _ _ _ _ _ _ _ _ 0 [(0, .ref o), (1, .ref (E.2.1 i))] []
  have hB := bz_B.rf (bz_W.two hH hX hd)
  have hlen := w_i_len i hi
  have h8 := bz_ch8 i hi
  have hle := ht.le
  have hk := ht.k256 hb
  have K : kK t = 2 → kE t - kS t = (w_i i).length → ∀ (m j : Nat), j + m = bz_len.getD i 0 → (∀ z, z < j → b (kS t + z) = (w_i i).getD z 0) → bz_G l E mX0_isWord (bz_R 4 0 0) L sz (bz_Fm E L sz (fun r g1 => r = some (.int (tB (t_wd b t (w_i i)))) ∧ g1 = g)) sz 0 0 L g 28 [(2, .int (nI j)), (0, .ref o), (1, .ref (E.2.1 i))] [] := by
    intro hk2 hl2 m
    induction m with
    | zero =>
      intro j hm hj
      refine g_iload_n (q := 29) dX0_isWord_28 rfl rfl ?_
      refine g_aload_n (q := 30) dX0_isWord_29 rfl rfl ?_
      refine g_callT (q := 33) dX0_isWord_30 rfl kT_X0_167 hi (c_length hi) rfl (by decide) rfl (bz_le rfl) (by decide) (by decide) (fun r g1 hQ => ?_)
      obtain ⟨rfl, hg⟩ := hQ
      have hg := hg.symm
      subst hg
      refine g_icmpN_ge (q := 36) (t := 62) dX0_isWord_33 rfl (by decide) (by omega) (by omega) (fun _ => ?_) (fun c => absurd c (by omega))
      refine g_iconst (q := 63) (v := (nI 1)) dX0_isWord_62 rfl (by decide) ?_
      exact g_zret dX0_isWord_63 rfl rfl ⟨by rw [t_wd_1 hk2 hl2 (fun z hz => hj z (by omega))]; rfl, rfl⟩
    | succ m ih =>
    intro j hm hj
    refine g_iload_n (q := 29) dX0_isWord_28 rfl rfl ?_
    refine g_aload_n (q := 30) dX0_isWord_29 rfl rfl ?_
    refine g_callT (q := 33) dX0_isWord_30 rfl kT_X0_167 hi (c_length hi) rfl (by decide) rfl (bz_le rfl) (by decide) (by decide) (fun r g1 hQ => ?_)
    obtain ⟨rfl, hg⟩ := hQ
    have hg := hg.symm
    subst hg
    refine g_icmpN_ge (q := 36) (t := 62) dX0_isWord_33 rfl (by decide) (by omega) (by omega) (fun c => absurd c (by omega)) (fun _ => ?_)
    refine g_aload_n (q := 37) dX0_isWord_36 rfl rfl ?_
    refine g_aload_n (q := 38) dX0_isWord_37 rfl rfl ?_
    refine gb_getf (q := 41) (j := 0) (i := 0) dX0_isWord_38 rfl fl_X0_57 hB rfl rfl rfl rfl ?_
    refine g_iload_n (q := 42) dX0_isWord_41 rfl rfl ?_
    refine g_iaddN (q := 43) dX0_isWord_42 rfl ?_
    refine gb_callV (q := 46) (j := 0) (i := 0) dX0_isWord_43 rfl kv_X0_172 (c_byteAt (p := kS t + j) hb hn hd (hB.1.at (j := 1) rfl) (by omega) (hB.1.at (j := 0) rfl)) rfl (by decide) hB rfl rfl rfl rfl (bz_le rfl) (by decide) (by decide) (fun r g1 hQ => ?_)
    obtain ⟨rfl, hg⟩ := hQ
    have hg := hg.symm
    subst hg
    refine g_aload_n (q := 47) dX0_isWord_46 rfl rfl ?_
    refine g_iload_n (q := 48) dX0_isWord_47 rfl rfl ?_
    refine g_callT (q := 51) dX0_isWord_48 rfl kT_X0_175 hi (c_charAt hi (by omega)) rfl (by decide) rfl (bz_le rfl) (by decide) (by decide) (fun r g1 hQ => ?_)
    obtain ⟨rfl, hg⟩ := hQ
    have hg := hg.symm
    subst hg
    refine g_eqi (v := nI ((w_i i).getD j 0)) ((w_i_at i hi j (by omega)).1) ?_
    refine g_icmp_eq (q := 54) (t := 56) dX0_isWord_51 rfl (by decide) (fun c_51 => ?_) (fun c_51 => ?_)
    · refine g_iincN (q := 59) (c := 1) dX0_isWord_56 rfl (by decide) rfl rfl (by decide) ?_
      refine g_goto (q := 28) dX0_isWord_59 (by decide) ?_
      refine g_lvs (lv1 := [(2, .int (nI (j + 1))), (0, .ref o), (1, .ref (E.2.1 i))]) ⟨rfl, rfl, rfl, trivial⟩ ?_
      exact ih (j + 1) (by omega) (t_ext hj (s8_inj (hb _) (w_i_at i hi j (by omega)).2 c_51))
    · refine g_iconst (q := 55) (v := (nI 0)) dX0_isWord_54 rfl (by decide) ?_
      exact g_zret dX0_isWord_55 rfl rfl ⟨by rw [t_wd_0 (fun hc => c_51 (by rw [hc.2.2 j (by omega)]; exact s8_lt _ (w_i_at i hi j (by omega)).2))]; rfl, rfl⟩
  refine g_aload_n (q := 1) dX0_isWord_0 rfl rfl ?_
  refine gb_getf (q := 4) (j := 0) (i := 0) dX0_isWord_1 rfl fl_X0_47 hB rfl rfl rfl rfl ?_
  refine g_iconst (q := 5) (v := (nI 2)) dX0_isWord_4 rfl (by decide) ?_
  refine g_icmpN_ne (q := 8) (t := 24) dX0_isWord_5 rfl (by decide) (by omega) (by omega) (fun c_5 => ?_) (fun c_5 => ?_)
  · refine g_iconst (q := 25) (v := (nI 0)) dX0_isWord_24 rfl (by decide) ?_
    exact g_zret dX0_isWord_25 rfl rfl ⟨by rw [t_wd_0 (fun hc => c_5 hc.1)]; rfl, rfl⟩
  · refine g_aload_n (q := 9) dX0_isWord_8 rfl rfl ?_
    refine gb_getf (q := 12) (j := 0) (i := 0) dX0_isWord_9 rfl fl_X0_23 hB rfl rfl rfl rfl ?_
    refine g_aload_n (q := 13) dX0_isWord_12 rfl rfl ?_
    refine gb_getf (q := 16) (j := 0) (i := 0) dX0_isWord_13 rfl fl_X0_57 hB rfl rfl rfl rfl ?_
    refine g_isubN (q := 17) dX0_isWord_16 rfl (by omega) ?_
    refine g_aload_n (q := 18) dX0_isWord_17 rfl rfl ?_
    refine g_callT (q := 21) dX0_isWord_18 rfl kT_X0_167 hi (c_length hi) rfl (by decide) rfl (bz_le rfl) (by decide) (by decide) (fun r g1 hQ => ?_)
    obtain ⟨rfl, hg⟩ := hQ
    have hg := hg.symm
    subst hg
    refine g_icmpN_eq (q := 24) (t := 26) dX0_isWord_21 rfl (by decide) (by omega) (by omega) (fun c_21 => ?_) (fun c_21 => ?_)
    · refine g_iconst (q := 27) (v := (nI 0)) dX0_isWord_26 rfl (by decide) ?_
      refine g_istore_n (q := 28) rfl dX0_isWord_27 rfl (by decide) rfl ?_
      have K := K c_5 (c_21.trans hlen.symm)
      refine g_lvs (lv1 := [(2, .int (nI 0)), (0, .ref o), (1, .ref (E.2.1 i))]) ⟨rfl, rfl, rfl, trivial⟩ ?_
      exact K (bz_len.getD i 0) 0 (Nat.zero_add _) (fun z hz => absurd hz (by omega))
    · refine g_iconst (q := 25) (v := (nI 0)) dX0_isWord_24 rfl (by decide) ?_
      exact g_zret dX0_isWord_25 rfl rfl ⟨by rw [t_wd_0 (fun hc => c_21 (hc.2.1.trans hlen))]; rfl, rfl⟩
set_option maxRecDepth 20000 in
set_option maxHeartbeats 1000000 in
theorem c_fail {l : Launch} {E : bz_E} {L : List Nat} {g : Nat → va_E} {o x n : Nat} {f0 pd : Nat → Int32} {t : Tok} {e : Nat × Nat} {nm ep hs ht1 pc op : Int32} {c : Nat} (hc : c ≤ 4) (hk : k_ok t e nm ep) (hH : bz_H L g o (b_T E o x n (kE t) (kK t) (kS t) nm (nI e.1) ep hs ht1 f0 pd pc op)) : bz_K l E mX0_fail 0 [.ref o, .int (nI c)] L g (fun r g1 => r = none ∧ ∃ ep1 : Int32, bz_B L g g1 [(o, (b_T E o x n (kE t) (kK t) (kS t) nm (nI (k_fail e c t).1) ep1 hs ht1 f0 pd pc op))] ∧ k_ok t (k_fail e c t) nm ep1) := by
  refine bz_K.of (by decide) (bz_le rfl) (fun sz => ?_)
  show bz_G _ _ _ _ _ _ _ _ _ _ _ _ 0 [(0, .ref o), (1, .int (nI c))] []
  have hB := bz_B.rf (bz_W.one hH)
  have h4 := hk.2.2
  refine g_aload_n (q := 1) dX0_fail_0 rfl rfl ?_
  refine gb_getf (q := 4) (j := 0) (i := 0) dX0_fail_1 rfl fl_X0_26 hB rfl rfl rfl rfl ?_
  refine g_ifN_ne (q := 7) (t := 20) dX0_fail_4 rfl (by decide) (by omega) (fun c_4 => ?_) (fun c_4 => ?_)
  · exact g_vret dX0_fail_20 rfl (⟨rfl, ep, by unfold k_fail; rw [if_neg c_4]; exact hB, by unfold k_fail; rw [if_neg c_4]; exact hk⟩)
  · refine g_aload_n (q := 8) dX0_fail_7 rfl rfl ?_
    refine g_iload_n (q := 9) dX0_fail_8 rfl rfl ?_
    refine gb_putf (q := 12) (j := 0) (i := 0) dX0_fail_9 rfl fp_X0_26 hB rfl rfl rfl (bz_le rfl) rfl rfl (fun g hB => ?_)
    refine g_aload_n (q := 13) dX0_fail_12 rfl rfl ?_
    refine g_aload_n (q := 14) dX0_fail_13 rfl rfl ?_
    refine gb_getf (q := 17) (j := 0) (i := 0) dX0_fail_14 rfl fl_X0_57 hB rfl rfl rfl rfl ?_
    refine gb_putf (q := 20) (j := 0) (i := 0) dX0_fail_17 rfl fp_X0_29 hB rfl rfl rfl (bz_le rfl) rfl rfl (fun g hB => ?_)
    exact g_vret dX0_fail_20 rfl (⟨rfl, nI (kS t), by unfold k_fail; rw [if_pos c_4]; exact hB, by unfold k_fail; rw [if_pos c_4]; exact ⟨hk.1, fun _ => rfl, hc⟩⟩)
set_option maxRecDepth 20000 in
set_option maxHeartbeats 1000000 in
theorem c_numberIn {l : Launch} {E : bz_E} {L : List Nat} {g : Nat → va_E} {o x n : Nat} {b : Nat → Nat} {f0 pd : Nat → Int32} {t : Tok} {e : Nat × Nat} {nm ep hs ht1 pc op : Int32} {lo hi : Nat} (hb : ∀ i, b i < 256) (hn : n ≤ 600) (hd : o + 3 ≤ x ∨ x + 1 ≤ o) (hX : bz_H L g x (b_In E b)) (ht : t_is b n t) (hlo : lo < 10000) (hhi : hi < 10000) (hk : k_ok t e nm ep) (hH : bz_H L g o (b_T E o x n (kE t) (kK t) (kS t) nm (nI e.1) ep hs ht1 f0 pd pc op)) : bz_K l E mX0_numberIn 3 [.ref o, .int (nI lo), .int (nI hi)] L g (fun r g1 => ∃ (v : Nat) (t1 : Tok) (e1 : Nat × Nat) (nm1 ep1 : Int32), r = some (.int (nI v)) ∧ bz_B L g g1 [(o, (b_T E o x n (kE t1) (kK t1) (kS t1) nm1 (nI e1.1) ep1 hs ht1 f0 pd pc op))] ∧ k_num b n lo hi t e = (v, t1, e1) ∧ k_ok t1 e1 nm1 ep1) := by
  refine bz_K.of (by decide) (bz_le rfl) (fun sz => ?_)
  show bz_G _ _ _ _ _ _ _ _ _ _ _ _ 0 [(0, .ref o), (1, .int (nI lo)), (2, .int (nI hi))] []
  have hB := bz_B.rf (bz_W.two hH hX hd)
  have hle := ht.le
  have h256 := ht.k256 hb
  refine g_aload_n (q := 1) dX0_numberIn_0 rfl rfl ?_
  refine gb_getf (q := 4) (j := 0) (i := 0) dX0_numberIn_1 rfl fl_X0_47 hB rfl rfl rfl rfl ?_
  refine g_iconst (q := 5) (v := (nI 3)) dX0_numberIn_4 rfl (by decide) ?_
  refine g_icmpN_eq (q := 8) (t := 15) dX0_numberIn_5 rfl (by decide) (by omega) (by omega) (fun c_5 => ?_) (fun c_5 => ?_)
  · refine g_aload_n (q := 16) dX0_numberIn_15 rfl rfl ?_
    refine gb_getf (q := 19) (j := 0) (i := 0) dX0_numberIn_16 rfl fl_X0_118 hB rfl rfl rfl rfl ?_
    refine g_eqi (v := nI (kN t)) (hk.1 c_5) ?_
    refine g_iload_n (q := 20) dX0_numberIn_19 rfl rfl ?_
    refine g_icmpN_lt (q := 23) (t := 31) dX0_numberIn_20 rfl (by decide) (by have := ht.num c_5; omega) (by omega) (fun c_20 => ?_) (fun c_20 => ?_)
    · refine g_aload_n (q := 32) dX0_numberIn_31 rfl rfl ?_
      refine g_iconst (q := 33) (v := (nI 3)) dX0_numberIn_32 rfl (by decide) ?_
      refine gb_callV (q := 36) (j := 0) (i := 0) dX0_numberIn_33 rfl kv_X0_114 (c_fail (t := t) (e := e) (ep := ep) (c := 3) (by decide) hk (hB.1.at (j := 0) rfl)) rfl (by decide) hB rfl rfl rfl rfl (bz_le rfl) (by decide) (by decide) (fun r g1 hQ => ?_)
      obtain ⟨rfl, ep1, h1, hk1⟩ := hQ
      have hB := hB.sp (j := 0) rfl 0 rfl h1 (bz_le rfl)
      refine g_iload_n (q := 37) dX0_numberIn_36 rfl rfl ?_
      exact g_iret dX0_numberIn_37 rfl (⟨lo, t, k_fail e 3 t, nm, ep1, rfl, hB.fst hX, by unfold k_num; rw [if_pos c_5, if_neg (by omega)], hk1⟩)
    · refine g_aload_n (q := 24) dX0_numberIn_23 rfl rfl ?_
      refine gb_getf (q := 27) (j := 0) (i := 0) dX0_numberIn_24 rfl fl_X0_118 hB rfl rfl rfl rfl ?_
      refine g_eqi (v := nI (kN t)) (hk.1 c_5) ?_
      refine g_iload_n (q := 28) dX0_numberIn_27 rfl rfl ?_
      refine g_icmpN_le (q := 31) (t := 38) dX0_numberIn_28 rfl (by decide) (by have := ht.num c_5; omega) (by omega) (fun c_28 => ?_) (fun c_28 => ?_)
      · refine g_aload_n (q := 39) dX0_numberIn_38 rfl rfl ?_
        refine gb_getf (q := 42) (j := 0) (i := 0) dX0_numberIn_39 rfl fl_X0_118 hB rfl rfl rfl rfl ?_
        refine g_eqi (v := nI (kN t)) (hk.1 c_5) ?_
        refine g_istore_n (q := 43) rfl dX0_numberIn_42 rfl (by decide) rfl ?_
        refine g_aload_n (q := 44) dX0_numberIn_43 rfl rfl ?_
        refine gb_callV (q := 47) (j := 0) (i := 0) dX0_numberIn_44 rfl kv_X0_44 (c_step (p := kE t) hb hn hd (hB.1.at (j := 1) rfl) (by omega) (hB.1.at (j := 0) rfl)) rfl (by decide) hB rfl rfl rfl rfl (bz_le rfl) (by decide) (by decide) (fun r g1 hQ => ?_)
        obtain ⟨rfl, t1, nm1, h1, rfl, hk1⟩ := hQ
        have hB := hB.sp (j := 0) rfl 0 rfl h1 (bz_le rfl)
        refine g_iload_n (q := 48) dX0_numberIn_47 rfl rfl ?_
        exact g_iret dX0_numberIn_48 rfl (⟨kN t, t_nx b n t, e, nm1, ep, rfl, hB.fst hX, by unfold k_num; rw [if_pos c_5, if_pos (by omega)], hk1, hk.2⟩)
      · refine g_aload_n (q := 32) dX0_numberIn_31 rfl rfl ?_
        refine g_iconst (q := 33) (v := (nI 3)) dX0_numberIn_32 rfl (by decide) ?_
        refine gb_callV (q := 36) (j := 0) (i := 0) dX0_numberIn_33 rfl kv_X0_114 (c_fail (t := t) (e := e) (ep := ep) (c := 3) (by decide) hk (hB.1.at (j := 0) rfl)) rfl (by decide) hB rfl rfl rfl rfl (bz_le rfl) (by decide) (by decide) (fun r g1 hQ => ?_)
        obtain ⟨rfl, ep1, h1, hk1⟩ := hQ
        have hB := hB.sp (j := 0) rfl 0 rfl h1 (bz_le rfl)
        refine g_iload_n (q := 37) dX0_numberIn_36 rfl rfl ?_
        exact g_iret dX0_numberIn_37 rfl (⟨lo, t, k_fail e 3 t, nm, ep1, rfl, hB.fst hX, by unfold k_num; rw [if_pos c_5, if_neg (by omega)], hk1⟩)
  · refine g_aload_n (q := 9) dX0_numberIn_8 rfl rfl ?_
    refine g_iconst (q := 10) (v := (nI 1)) dX0_numberIn_9 rfl (by decide) ?_
    refine gb_callV (q := 13) (j := 0) (i := 0) dX0_numberIn_10 rfl kv_X0_114 (c_fail (t := t) (e := e) (ep := ep) (c := 1) (by decide) hk (hB.1.at (j := 0) rfl)) rfl (by decide) hB rfl rfl rfl rfl (bz_le rfl) (by decide) (by decide) (fun r g1 hQ => ?_)
    obtain ⟨rfl, ep1, h1, hk1⟩ := hQ
    have hB := hB.sp (j := 0) rfl 0 rfl h1 (bz_le rfl)
    refine g_iload_n (q := 14) dX0_numberIn_13 rfl rfl ?_
    exact g_iret dX0_numberIn_14 rfl (⟨lo, t, k_fail e 1 t, nm, ep1, rfl, hB.fst hX, by unfold k_num; rw [if_neg c_5], hk1⟩)
