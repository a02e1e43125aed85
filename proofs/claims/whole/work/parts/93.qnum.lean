/-! the reference: words, signs, errors, numbers -/
theorem q_kk_2 : ∀ k, k < 256 → (q_kk k = 1 ↔ k = 2) := by decide +kernel
theorem q_kk_3 : ∀ k, k < 256 → (q_kk k = 2 ↔ k = 3) := by decide +kernel
theorem q_kk_4 : ∀ k, k < 256 → (q_kk k = 3 ↔ 3 < k) := by decide +kernel
theorem q_kk_0 : ∀ k, k < 256 → (q_kk k = 0 ↔ k = 0) := by decide +kernel
theorem q_kk_b (k : Nat) : q_kk k ≤ 4 := by
  unfold q_kk
  split
  · omega
  · split
    · omega
    · split
      · omega
      · split <;> omega
theorem q_wi {a lo hi : Nat} (ha : a < 2 ^ 31) (hlo : lo < 2 ^ 31) (hhi : hi < 2 ^ 31) : (if nI a < nI lo then (0 : Int32) else if nI hi < nI a then 0 else 1) = tB (decide (lo ≤ a ∧ a ≤ hi)) := by
  by_cases h1 : a < lo
  · rw [if_pos (nI_lt h1 hlo), decide_eq_false (by omega)]; rfl
  · rw [if_neg (fun h => by have := (nI_ltI ha hlo).mp h; omega)]
    by_cases h2 : hi < a
    · rw [if_pos (nI_lt h2 ha), decide_eq_false (by omega)]; rfl
    · rw [if_neg (fun h => by have := (nI_ltI hhi ha).mp h; omega), decide_eq_true (by omega)]; rfl
set_option maxRecDepth 20000 in
set_option maxHeartbeats 1000000 in
theorem c_misWord {l : Launch} {E : bz_E} {L : List Nat} {g : Nat → va_E} {o : Nat} {I : Nat → Int32} {A : Nat → Nat → Int32} {b : Nat → Nat} {n : Nat} {t : Tok} {i : Nat} (hb : ∀ i, b i < 256) (hn : n ≤ 600) (h11 : I 11 = nI n) (h9 : ∀ i, i < 600 → A 9 i = s8 (b i)) (hi : i < 11) (ht : t_is b n t) (hq : q_tk I t) (hH : bz_H L g o (b_Mod E o I A)) : bz_K l E mX9_isWord 4 [.ref o, .ref (E.2.1 i)] L g (fun r g1 => r = some (.int (tB (t_wd b t (w_i i)))) ∧ g1 = g) := by
  refine bz_K.of (by decide) (bz_le rfl) (fun sz => ?_)
  show bz_G _ _ _ _ _ _ _ _ _ _ _ _ 0 [(0, .ref o), (1, .ref (E.2.1 i))] []
  have hB := bz_B.rf (bz_W.one hH)
  have hlen := w_i_len i hi
  have h8 := bz_ch8 i hi
  have hle := ht.le
  have h256 := ht.k256 hb
  have hqb := q_kk_b (kK t)
  have KN : t_wd b t (w_i i) = false → ∀ j : Nat, j ≤ 8 → bz_G l E mX9_isWord (bz_R 4 0 0) L sz (bz_Fm E L sz (fun r g1 => r = some (.int (tB (t_wd b t (w_i i)))) ∧ g1 = g)) sz 0 0 L g 32 [(3, .int (nI j)), (2, .int (nI 0)), (0, .ref o), (1, .ref (E.2.1 i))] [] := by
    intro hF j hj8
    refine g_iload_n (q := 33) dX9_isWord_32 rfl rfl ?_
    refine g_aload_n (q := 34) dX9_isWord_33 rfl rfl ?_
    refine g_callT (q := 37) dX9_isWord_34 rfl kT_X9_121 hi (c_length hi) rfl (by decide) rfl (bz_le rfl) (by decide) (by decide) (fun r g1 hQ => ?_)
    obtain ⟨rfl, hg⟩ := hQ
    have hg := hg.symm
    subst hg
    refine g_icmpN_ge (q := 40) (t := 75) dX9_isWord_37 rfl (by decide) (by omega) (by omega) (fun c_37 => ?_) (fun c_37 => ?_)
    · refine g_iload_n (q := 76) dX9_isWord_75 rfl rfl ?_
      exact g_zret dX9_isWord_76 rfl rfl ⟨by rw [hF]; rfl, rfl⟩
    · refine g_iload_n (q := 41) dX9_isWord_40 rfl rfl ?_
      refine g_ifN_eq (q := 44) (t := 75) dX9_isWord_41 rfl (by decide) (by omega) (fun _ => ?_) (fun c => absurd c (by omega))
      refine g_iload_n (q := 76) dX9_isWord_75 rfl rfl ?_
      exact g_zret dX9_isWord_76 rfl rfl ⟨by rw [hF]; rfl, rfl⟩
  have K : kK t = 2 → kE t - kS t = (w_i i).length → ∀ (m j : Nat), j + m = bz_len.getD i 0 → (∀ z, z < j → b (kS t + z) = (w_i i).getD z 0) → bz_G l E mX9_isWord (bz_R 4 0 0) L sz (bz_Fm E L sz (fun r g1 => r = some (.int (tB (t_wd b t (w_i i)))) ∧ g1 = g)) sz 0 0 L g 32 [(3, .int (nI j)), (2, .int (nI 1)), (0, .ref o), (1, .ref (E.2.1 i))] [] := by
    intro hk2 hl2 m
    induction m with
    | zero =>
      intro j hm hj
      refine g_iload_n (q := 33) dX9_isWord_32 rfl rfl ?_
      refine g_aload_n (q := 34) dX9_isWord_33 rfl rfl ?_
      refine g_callT (q := 37) dX9_isWord_34 rfl kT_X9_121 hi (c_length hi) rfl (by decide) rfl (bz_le rfl) (by decide) (by decide) (fun r g1 hQ => ?_)
      obtain ⟨rfl, hg⟩ := hQ
      have hg := hg.symm
      subst hg
      refine g_icmpN_ge (q := 40) (t := 75) dX9_isWord_37 rfl (by decide) (by omega) (by omega) (fun _ => ?_) (fun c => absurd c (by omega))
      refine g_iload_n (q := 76) dX9_isWord_75 rfl rfl ?_
      exact g_zret dX9_isWord_76 rfl rfl ⟨by rw [t_wd_1 hk2 hl2 (fun z hz => hj z (by omega))]; rfl, rfl⟩
    | succ m ih =>
      intro j hm hj
      refine g_iload_n (q := 33) dX9_isWord_32 rfl rfl ?_
      refine g_aload_n (q := 34) dX9_isWord_33 rfl rfl ?_
      refine g_callT (q := 37) dX9_isWord_34 rfl kT_X9_121 hi (c_length hi) rfl (by decide) rfl (bz_le rfl) (by decide) (by decide) (fun r g1 hQ => ?_)
      obtain ⟨rfl, hg⟩ := hQ
      have hg := hg.symm
      subst hg
      refine g_icmpN_ge (q := 40) (t := 75) dX9_isWord_37 rfl (by decide) (by omega) (by omega) (fun c => absurd c (by omega)) (fun _ => ?_)
      refine g_iload_n (q := 41) dX9_isWord_40 rfl rfl ?_
      refine g_ifN_eq (q := 44) (t := 75) dX9_isWord_41 rfl (by decide) (by omega) (fun c => absurd c (by omega)) (fun _ => ?_)
      refine g_aload_n (q := 45) dX9_isWord_44 rfl rfl ?_
      refine gb_getf (q := 48) (j := 0) (i := 0) dX9_isWord_45 rfl fl_X9_34 hB rfl rfl rfl rfl ?_
      refine g_aload_n (q := 49) dX9_isWord_48 rfl rfl ?_
      refine gb_getf (q := 52) (j := 0) (i := 0) dX9_isWord_49 rfl fl_X9_105 hB rfl rfl rfl rfl ?_
      refine g_eqi (v := nI (kS t)) (hq.1) ?_
      refine g_iload_n (q := 53) dX9_isWord_52 rfl rfl ?_
      refine g_iaddN (q := 54) dX9_isWord_53 rfl ?_
      refine gb_baldN (q := 55) (j := 0) (i := 9) dX9_isWord_54 rfl hB rfl rfl rfl (by omega) (by decide) ?_
      refine g_eqi (v := s8 (b (kS t + j))) (h9 _ (by omega)) ?_
      refine g_aload_n (q := 56) dX9_isWord_55 rfl rfl ?_
      refine g_iload_n (q := 57) dX9_isWord_56 rfl rfl ?_
      refine g_callT (q := 60) dX9_isWord_57 rfl kT_X9_126 hi (c_charAt hi (by omega)) rfl (by decide) rfl (bz_le rfl) (by decide) (by decide) (fun r g1 hQ => ?_)
      obtain ⟨rfl, hg⟩ := hQ
      have hg := hg.symm
      subst hg
      refine g_eqi (v := nI ((w_i i).getD j 0)) ((w_i_at i hi j (by omega)).1) ?_
      refine g_icmp_ne (q := 63) (t := 67) dX9_isWord_60 rfl (by decide) (fun c_60 => ?_) (fun c_60 => ?_)
      · refine g_iconst (q := 68) (v := (nI 0)) dX9_isWord_67 rfl (by decide) ?_
        refine g_istore_n (q := 69) rfl dX9_isWord_68 rfl (by decide) rfl ?_
        refine g_iincN (q := 72) (c := 1) dX9_isWord_69 rfl (by decide) rfl rfl (by decide) ?_
        refine g_goto (q := 32) dX9_isWord_72 (by decide) ?_
        refine g_lvs (lv1 := [(3, .int (nI (j + 1))), (2, .int (nI 0)), (0, .ref o), (1, .ref (E.2.1 i))]) ⟨rfl, rfl, rfl, rfl, trivial⟩ ?_
        exact KN (t_wd_0 (fun hc => c_60 (by rw [hc.2.2 j (by omega)]; exact s8_lt _ (w_i_at i hi j (by omega)).2))) (j + 1) (by omega)
      · refine g_iconst (q := 64) (v := (nI 1)) dX9_isWord_63 rfl (by decide) ?_
        refine g_goto (q := 68) dX9_isWord_64 (by decide) ?_
        refine g_istore_n (q := 69) rfl dX9_isWord_68 rfl (by decide) rfl ?_
        refine g_iincN (q := 72) (c := 1) dX9_isWord_69 rfl (by decide) rfl rfl (by decide) ?_
        refine g_goto (q := 32) dX9_isWord_72 (by decide) ?_
        refine g_lvs (lv1 := [(3, .int (nI (j + 1))), (2, .int (nI 1)), (0, .ref o), (1, .ref (E.2.1 i))]) ⟨rfl, rfl, rfl, rfl, trivial⟩ ?_
        exact ih (j + 1) (by omega) (t_ext hj (s8_inj (hb _) (w_i_at i hi j (by omega)).2 c_60))
  refine g_aload_n (q := 1) dX9_isWord_0 rfl rfl ?_
  refine gb_getf (q := 4) (j := 0) (i := 0) dX9_isWord_1 rfl fl_X9_111 hB rfl rfl rfl rfl ?_
  refine g_eqi (v := nI (q_kk (kK t))) (hq.2.2.1) ?_
  refine g_iconst (q := 5) (v := (nI 1)) dX9_isWord_4 rfl (by decide) ?_
  refine g_icmpN_ne (q := 8) (t := 28) dX9_isWord_5 rfl (by decide) (by omega) (by omega) (fun c_5 => ?_) (fun c_5 => ?_)
  · refine g_iconst (q := 29) (v := (nI 0)) dX9_isWord_28 rfl (by decide) ?_
    refine g_istore_n (q := 30) rfl dX9_isWord_29 rfl (by decide) rfl ?_
    refine g_iconst (q := 31) (v := (nI 0)) dX9_isWord_30 rfl (by decide) ?_
    refine g_istore_n (q := 32) rfl dX9_isWord_31 rfl (by decide) rfl ?_
    refine g_lvs (lv1 := [(3, .int (nI 0)), (2, .int (nI 0)), (0, .ref o), (1, .ref (E.2.1 i))]) ⟨rfl, rfl, rfl, rfl, trivial⟩ ?_
    exact KN (t_wd_0 (fun hc => by first | exact c_5 ((q_kk_2 _ h256).mpr hc.1) | exact c_21 (hc.2.1.trans hlen))) 0 (by omega)
  · refine g_aload_n (q := 9) dX9_isWord_8 rfl rfl ?_
    refine gb_getf (q := 12) (j := 0) (i := 0) dX9_isWord_9 rfl fl_X9_98 hB rfl rfl rfl rfl ?_
    refine g_eqi (v := nI (kE t)) (hq.2.1) ?_
    refine g_aload_n (q := 13) dX9_isWord_12 rfl rfl ?_
    refine gb_getf (q := 16) (j := 0) (i := 0) dX9_isWord_13 rfl fl_X9_105 hB rfl rfl rfl rfl ?_
    refine g_eqi (v := nI (kS t)) (hq.1) ?_
    refine g_isubN (q := 17) dX9_isWord_16 rfl (by omega) ?_
    refine g_aload_n (q := 18) dX9_isWord_17 rfl rfl ?_
    refine g_callT (q := 21) dX9_isWord_18 rfl kT_X9_121 hi (c_length hi) rfl (by decide) rfl (bz_le rfl) (by decide) (by decide) (fun r g1 hQ => ?_)
    obtain ⟨rfl, hg⟩ := hQ
    have hg := hg.symm
    subst hg
    refine g_icmpN_ne (q := 24) (t := 28) dX9_isWord_21 rfl (by decide) (by omega) (by omega) (fun c_21 => ?_) (fun c_21 => ?_)
    · refine g_iconst (q := 29) (v := (nI 0)) dX9_isWord_28 rfl (by decide) ?_
      refine g_istore_n (q := 30) rfl dX9_isWord_29 rfl (by decide) rfl ?_
      refine g_iconst (q := 31) (v := (nI 0)) dX9_isWord_30 rfl (by decide) ?_
      refine g_istore_n (q := 32) rfl dX9_isWord_31 rfl (by decide) rfl ?_
      refine g_lvs (lv1 := [(3, .int (nI 0)), (2, .int (nI 0)), (0, .ref o), (1, .ref (E.2.1 i))]) ⟨rfl, rfl, rfl, rfl, trivial⟩ ?_
      exact KN (t_wd_0 (fun hc => by first | exact c_5 ((q_kk_2 _ h256).mpr hc.1) | exact c_21 (hc.2.1.trans hlen))) 0 (by omega)
    · refine g_iconst (q := 25) (v := (nI 1)) dX9_isWord_24 rfl (by decide) ?_
      refine g_goto (q := 29) dX9_isWord_25 (by decide) ?_
      refine g_istore_n (q := 30) rfl dX9_isWord_29 rfl (by decide) rfl ?_
      refine g_iconst (q := 31) (v := (nI 0)) dX9_isWord_30 rfl (by decide) ?_
      refine g_istore_n (q := 32) rfl dX9_isWord_31 rfl (by decide) rfl ?_
      refine g_lvs (lv1 := [(3, .int (nI 0)), (2, .int (nI 1)), (0, .ref o), (1, .ref (E.2.1 i))]) ⟨rfl, rfl, rfl, rfl, trivial⟩ ?_
      exact K ((q_kk_2 _ h256).mp c_5) (c_21.trans hlen.symm) (bz_len.getD i 0) 0 (Nat.zero_add _) (fun z hz => absurd hz (by omega))
set_option maxRecDepth 20000 in
set_option maxHeartbeats 1000000 in
theorem c_misSignHere {l : Launch} {E : bz_E} {L : List Nat} {g : Nat → va_E} {o : Nat} {I : Nat → Int32} {A : Nat → Nat → Int32} {b : Nat → Nat} {n : Nat} {t : Tok} {c : Nat} (hb : ∀ i, b i < 256) (hc : 3 < c ∧ c < 256) (ht : t_is b n t) (hq : q_tk I t) (hH : bz_H L g o (b_Mod E o I A)) : bz_K l E mX9_isSignHere 0 [.ref o, .int (nI c)] L g (fun r g1 => r = some (.int (tB (decide (kK t = c)))) ∧ g1 = g) := by
  refine bz_K.of (by decide) (bz_le rfl) (fun sz => ?_)
  show bz_G _ _ _ _ _ _ _ _ _ _ _ _ 0 [(0, .ref o), (1, .int (nI c))] []
  have hB := bz_B.rf (bz_W.one hH)
  have h256 := ht.k256 hb
  have hqb := q_kk_b (kK t)
  refine g_aload_n (q := 1) dX9_isSignHere_0 rfl rfl ?_
  refine gb_getf (q := 4) (j := 0) (i := 0) dX9_isSignHere_1 rfl fl_X9_111 hB rfl rfl rfl rfl ?_
  refine g_eqi (v := nI (q_kk (kK t))) (hq.2.2.1) ?_
  refine g_iconst (q := 5) (v := (nI 3)) dX9_isSignHere_4 rfl (by decide) ?_
  refine g_icmpN_ne (q := 8) (t := 20) dX9_isSignHere_5 rfl (by decide) (by omega) (by omega) (fun c_5 => ?_) (fun c_5 => ?_)
  · refine g_iconst (q := 21) (v := (nI 0)) dX9_isSignHere_20 rfl (by decide) ?_
    exact g_zret dX9_isSignHere_21 rfl rfl ⟨by rw [decide_eq_false (fun e => c_5 ((q_kk_4 _ h256).mpr (by omega)))]; rfl, rfl⟩
  · refine g_aload_n (q := 9) dX9_isSignHere_8 rfl rfl ?_
    refine gb_getf (q := 12) (j := 0) (i := 0) dX9_isSignHere_9 rfl fl_X9_108 hB rfl rfl rfl rfl ?_
    refine g_eqi (v := nI (kK t)) (hq.2.2.2.2 ((q_kk_4 _ h256).mp c_5)) ?_
    refine g_iload_n (q := 13) dX9_isSignHere_12 rfl rfl ?_
    refine g_icmpN_ne (q := 16) (t := 20) dX9_isSignHere_13 rfl (by decide) (by omega) (by omega) (fun c_13 => ?_) (fun c_13 => ?_)
    · refine g_iconst (q := 21) (v := (nI 0)) dX9_isSignHere_20 rfl (by decide) ?_
      exact g_zret dX9_isSignHere_21 rfl rfl ⟨by rw [decide_eq_false c_13]; rfl, rfl⟩
    · refine g_iconst (q := 17) (v := (nI 1)) dX9_isSignHere_16 rfl (by decide) ?_
      refine g_goto (q := 21) dX9_isSignHere_17 (by decide) ?_
      exact g_zret dX9_isSignHere_21 rfl rfl ⟨by rw [decide_eq_true c_13]; rfl, rfl⟩
set_option maxRecDepth 20000 in
set_option maxHeartbeats 1000000 in
theorem c_mfails {l : Launch} {E : bz_E} {L : List Nat} {g : Nat → va_E} {o : Nat} {I : Nat → Int32} {A : Nat → Nat → Int32} {c p : Nat} (h16 : I 16 = nI 0) (h12 : I 12 = nI p) (hH : bz_H L g o (b_Mod E o I A)) : bz_K l E mX9_fails 0 [.ref o, .int (nI c)] L g (fun r g1 => r = some (.int (nI 0)) ∧ bz_B L g g1 [(o, b_Mod E o (va_up (va_up I 16 (nI c)) 17 (nI p)) A)]) := by
  refine bz_K.of (by decide) (bz_le rfl) (fun sz => ?_)
  have hB := bz_B.rf (bz_W.one hH)
  show bz_G _ _ _ _ _ _ _ _ _ _ _ _ 0 [(0, .ref o), (1, .int (nI c))] []
  refine g_aload_n (q := 1) dX9_fails_0 rfl rfl ?_
  refine gb_getf (q := 4) (j := 0) (i := 0) dX9_fails_1 rfl fl_X9_130 hB rfl rfl rfl rfl ?_
  refine g_eqi (v := nI (0)) (h16) ?_
  refine g_ifN_ne (q := 7) (t := 20) dX9_fails_4 rfl (by decide) (by omega) (fun c => absurd c (by omega)) (fun _ => ?_)
  refine g_aload_n (q := 8) dX9_fails_7 rfl rfl ?_
  refine g_iload_n (q := 9) dX9_fails_8 rfl rfl ?_
  refine gb_putf (q := 12) (j := 0) (i := 0) dX9_fails_9 rfl fp_X9_130 hB rfl rfl rfl (bz_le rfl) rfl rfl (fun g hB => ?_)
  refine g_aload_n (q := 13) dX9_fails_12 rfl rfl ?_
  refine g_aload_n (q := 14) dX9_fails_13 rfl rfl ?_
  refine gb_getf (q := 17) (j := 0) (i := 0) dX9_fails_14 rfl fl_X9_105 hB rfl rfl rfl rfl ?_
  refine g_eqi (v := nI (p)) (h12) ?_
  refine gb_putf (q := 20) (j := 0) (i := 0) dX9_fails_17 rfl fp_X9_38 hB rfl rfl rfl (bz_le rfl) rfl rfl (fun g hB => ?_)
  refine g_iconst (q := 21) (v := (nI 0)) dX9_fails_20 rfl (by decide) ?_
  exact g_zret dX9_fails_21 rfl rfl ⟨rfl, hB⟩
set_option maxRecDepth 20000 in
set_option maxHeartbeats 1000000 in
theorem c_mtakes0 {l : Launch} {E : bz_E} {L : List Nat} {g : Nat → va_E} {o : Nat} {I : Nat → Int32} {A : Nat → Nat → Int32} {b : Nat → Nat} {n : Nat} {t : Tok} {lo hi : Nat} {z : Nat × Tok} (hb : ∀ i, b i < 256) (hn : n ≤ 600) (h11 : I 11 = nI n) (h9 : ∀ i, i < 600 → A 9 i = s8 (b i)) (hlo : lo < 10000) (hhi : hi < 10000) (ht : t_is b n t) (hq : q_tk I t) (hp : p_num b n lo hi t = .inl z) (hH : bz_H L g o (b_Mod E o I A)) : bz_K l E mX9_takes 2 [.ref o, .int (nI lo), .int (nI hi)] L g (fun r g1 => r = some (.int (nI 1)) ∧ ∃ I1 : Nat → Int32, bz_B L g g1 [(o, b_Mod E o I1 A)] ∧ q_tk I1 z.2 ∧ I1 18 = nI z.1 ∧ ∀ i, q_o i → i ≠ 18 → I1 i = I i) := by
  refine bz_K.of (by decide) (bz_le rfl) (fun sz => ?_)
  show bz_G _ _ _ _ _ _ _ _ _ _ _ _ 0 [(0, .ref o), (1, .int (nI lo)), (2, .int (nI hi))] []
  have hB := bz_B.rf (bz_W.one hH)
  have hle := ht.le
  have h256 := ht.k256 hb
  have hqb := q_kk_b (kK t)
  have hz : kK t = 3 ∧ (lo ≤ kN t ∧ kN t ≤ hi) ∧ z = (kN t, t_nx b n t) := by
    unfold p_num at hp
    by_cases c1 : kK t = 3
    · rw [if_pos c1] at hp
      by_cases c2 : lo ≤ kN t ∧ kN t ≤ hi
      · rw [if_pos c2] at hp; cases hp; exact ⟨c1, c2, rfl⟩
      · rw [if_neg c2] at hp; cases hp
    · rw [if_neg c1] at hp; cases hp
  obtain ⟨c1, c2, rfl⟩ := hz
  have hN := ht.num c1
  refine g_aload_n (q := 1) dX9_takes_0 rfl rfl ?_
  refine gb_getf (q := 4) (j := 0) (i := 0) dX9_takes_1 rfl fl_X9_111 hB rfl rfl rfl rfl ?_
  refine g_eqi (v := nI (q_kk (kK t))) (hq.2.2.1) ?_
  refine g_iconst (q := 5) (v := (nI 2)) dX9_takes_4 rfl (by decide) ?_
  refine g_icmpN_eq (q := 8) (t := 14) dX9_takes_5 rfl (by decide) (by omega) (by omega) (fun _ => ?_) (fun c => absurd ((q_kk_3 _ h256).mpr c1) c)
  refine g_aload_n (q := 15) dX9_takes_14 rfl rfl ?_
  refine gb_getf (q := 18) (j := 0) (i := 0) dX9_takes_15 rfl fl_X9_108 hB rfl rfl rfl rfl ?_
  refine g_eqi (v := nI (kN t)) (hq.2.2.2.1 c1) ?_
  refine g_iload_n (q := 19) dX9_takes_18 rfl rfl ?_
  refine g_iload_n (q := 20) dX9_takes_19 rfl rfl ?_
  refine g_callS (q := 23) dX9_takes_20 rfl ks_X9_114 rfl (c_mwithin (v := nI (kN t)) (lo := nI lo) (hi := nI hi)) (by decide) rfl (bz_le rfl) (by decide) (by decide) (fun r g1 hQ => ?_)
  obtain ⟨rfl, hg⟩ := hQ
  have hg := hg.symm
  subst hg
  refine g_eqi (v := nI 1) (by rw [q_wi (by omega) (by omega) (by omega), decide_eq_true c2]; rfl) ?_
  refine g_if_ne (q := 26) (t := 32) dX9_takes_23 rfl (by decide) (fun _ => ?_) (fun c => absurd c (by decide))
  refine g_aload_n (q := 33) dX9_takes_32 rfl rfl ?_
  refine g_aload_n (q := 34) dX9_takes_33 rfl rfl ?_
  refine gb_getf (q := 37) (j := 0) (i := 0) dX9_takes_34 rfl fl_X9_108 hB rfl rfl rfl rfl ?_
  refine g_eqi (v := nI (kN t)) (hq.2.2.2.1 c1) ?_
  refine gb_putf (q := 40) (j := 0) (i := 0) dX9_takes_37 rfl fp_X9_136 hB rfl rfl rfl (bz_le rfl) rfl rfl (fun g hB => ?_)
  refine g_aload_n (q := 41) dX9_takes_40 rfl rfl ?_
  refine gb_callV (q := 44) (j := 0) (i := 0) dX9_takes_41 rfl kv_X9_139 (c_madvance (I := va_up I 18 (nI (kN t))) (A := A) (p := kE t) hb hn h11 h9 (by omega) hq.2.1 (hB.1.at (j := 0) rfl)) rfl (by decide) hB rfl rfl rfl rfl (bz_le rfl) (by decide) (by decide) (fun r g1 hQ => ?_)
  obtain ⟨rfl, I1, t1, h1, rfl, hq1, hf1⟩ := hQ
  have hB := hB.sp (j := 0) rfl 0 rfl h1 (bz_le rfl)
  refine g_iconst (q := 45) (v := (nI 1)) dX9_takes_44 rfl (by decide) ?_
  exact g_zret dX9_takes_45 rfl rfl ⟨rfl, I1, hB, hq1, hf1 18 (Or.inr (by decide)), fun i h1 h2 => (hf1 i h1).trans (va_ne h2)⟩
set_option maxRecDepth 20000 in
set_option maxHeartbeats 1000000 in
theorem c_mtakes1 {l : Launch} {E : bz_E} {L : List Nat} {g : Nat → va_E} {o : Nat} {I : Nat → Int32} {A : Nat → Nat → Int32} {b : Nat → Nat} {n : Nat} {t : Tok} {lo hi : Nat} {e : Nat × Nat} (hb : ∀ i, b i < 256) (hn : n ≤ 600) (h11 : I 11 = nI n) (h9 : ∀ i, i < 600 → A 9 i = s8 (b i)) (hlo : lo < 10000) (hhi : hi < 10000) (ht : t_is b n t) (hq : q_tk I t) (h16 : I 16 = nI 0) (hp : p_num b n lo hi t = .inr e) (hH : bz_H L g o (b_Mod E o I A)) : bz_K l E mX9_takes 2 [.ref o, .int (nI lo), .int (nI hi)] L g (fun r g1 => r = some (.int (nI 0)) ∧ bz_B L g g1 [(o, b_Mod E o (va_up (va_up I 16 (nI e.1)) 17 (nI e.2)) A)]) := by
  refine bz_K.of (by decide) (bz_le rfl) (fun sz => ?_)
  show bz_G _ _ _ _ _ _ _ _ _ _ _ _ 0 [(0, .ref o), (1, .int (nI lo)), (2, .int (nI hi))] []
  have hB := bz_B.rf (bz_W.one hH)
  have hle := ht.le
  have h256 := ht.k256 hb
  have hqb := q_kk_b (kK t)
  unfold p_num at hp
  by_cases c1 : kK t = 3
  · rw [if_pos c1] at hp
    have hN := ht.num c1
    by_cases c2 : lo ≤ kN t ∧ kN t ≤ hi
    · rw [if_pos c2] at hp; cases hp
    · rw [if_neg c2] at hp
      cases hp
      refine g_aload_n (q := 1) dX9_takes_0 rfl rfl ?_
      refine gb_getf (q := 4) (j := 0) (i := 0) dX9_takes_1 rfl fl_X9_111 hB rfl rfl rfl rfl ?_
      refine g_eqi (v := nI (q_kk (kK t))) (hq.2.2.1) ?_
      refine g_iconst (q := 5) (v := (nI 2)) dX9_takes_4 rfl (by decide) ?_
      refine g_icmpN_eq (q := 8) (t := 14) dX9_takes_5 rfl (by decide) (by omega) (by omega) (fun _ => ?_) (fun c => absurd ((q_kk_3 _ h256).mpr c1) c)
      refine g_aload_n (q := 15) dX9_takes_14 rfl rfl ?_
      refine gb_getf (q := 18) (j := 0) (i := 0) dX9_takes_15 rfl fl_X9_108 hB rfl rfl rfl rfl ?_
      refine g_eqi (v := nI (kN t)) (hq.2.2.2.1 c1) ?_
      refine g_iload_n (q := 19) dX9_takes_18 rfl rfl ?_
      refine g_iload_n (q := 20) dX9_takes_19 rfl rfl ?_
      refine g_callS (q := 23) dX9_takes_20 rfl ks_X9_114 rfl (c_mwithin (v := nI (kN t)) (lo := nI lo) (hi := nI hi)) (by decide) rfl (bz_le rfl) (by decide) (by decide) (fun r g1 hQ => ?_)
      obtain ⟨rfl, hg⟩ := hQ
      have hg := hg.symm
      subst hg
      refine g_eqi (v := nI 0) (by rw [q_wi (by omega) (by omega) (by omega), decide_eq_false c2]; rfl) ?_
      refine g_if_ne (q := 26) (t := 32) dX9_takes_23 rfl (by decide) (fun c => absurd c (fun q => q rfl)) (fun _ => ?_)
      refine g_aload_n (q := 27) dX9_takes_26 rfl rfl ?_
      refine g_iconst (q := 28) (v := (nI 3)) dX9_takes_27 rfl (by decide) ?_
      refine gb_callV (q := 31) (j := 0) (i := 0) dX9_takes_28 rfl kv_X9_133 (c_mfails (I := I) (A := A) (c := 3) h16 hq.1 (hB.1.at (j := 0) rfl)) rfl (by decide) hB rfl rfl rfl rfl (bz_le rfl) (by decide) (by decide) (fun r g1 hQ => ?_)
      obtain ⟨rfl, h1⟩ := hQ
      have hB := hB.sp (j := 0) rfl 0 rfl h1 (bz_le rfl)
      exact g_zret dX9_takes_31 rfl rfl ⟨rfl, hB⟩
  · rw [if_neg c1] at hp
    cases hp
    refine g_aload_n (q := 1) dX9_takes_0 rfl rfl ?_
    refine gb_getf (q := 4) (j := 0) (i := 0) dX9_takes_1 rfl fl_X9_111 hB rfl rfl rfl rfl ?_
    refine g_eqi (v := nI (q_kk (kK t))) (hq.2.2.1) ?_
    refine g_iconst (q := 5) (v := (nI 2)) dX9_takes_4 rfl (by decide) ?_
    refine g_icmpN_eq (q := 8) (t := 14) dX9_takes_5 rfl (by decide) (by omega) (by omega) (fun c => absurd ((q_kk_3 _ h256).mp c) c1) (fun _ => ?_)
    refine g_aload_n (q := 9) dX9_takes_8 rfl rfl ?_
    refine g_iconst (q := 10) (v := (nI 1)) dX9_takes_9 rfl (by decide) ?_
    refine gb_callV (q := 13) (j := 0) (i := 0) dX9_takes_10 rfl kv_X9_133 (c_mfails (I := I) (A := A) (c := 1) h16 hq.1 (hB.1.at (j := 0) rfl)) rfl (by decide) hB rfl rfl rfl rfl (bz_le rfl) (by decide) (by decide) (fun r g1 hQ => ?_)
    obtain ⟨rfl, h1⟩ := hQ
    have hB := hB.sp (j := 0) rfl 0 rfl h1 (bz_le rfl)
    exact g_zret dX9_takes_13 rfl rfl ⟨rfl, hB⟩
set_option maxRecDepth 20000 in
set_option maxHeartbeats 1000000 in
theorem c_mstarts0 {l : Launch} {E : bz_E} {L : List Nat} {g : Nat → va_E} {o : Nat} {I : Nat → Int32} {A : Nat → Nat → Int32} {b : Nat → Nat} {n : Nat} {t : Tok} {c : Nat} (hb : ∀ i, b i < 256) (hn : n ≤ 600) (h11 : I 11 = nI n) (h9 : ∀ i, i < 600 → A 9 i = s8 (b i)) (ht : t_is b n t) (hq : q_tk I t) (hH : bz_H L g o (b_Mod E o I A)) : bz_K l E mX9_starts 2 [.ref o, .int (nI c), .int (nI 1)] L g (fun r g1 => r = some (.int (nI 1)) ∧ ∃ I1 : Nat → Int32, bz_B L g g1 [(o, b_Mod E o I1 A)] ∧ q_tk I1 (t_nx b n t) ∧ ∀ i, q_o i → I1 i = I i) := by
  refine bz_K.of (by decide) (bz_le rfl) (fun sz => ?_)
  have hB := bz_B.rf (bz_W.one hH)
  have hle := ht.le
  show bz_G _ _ _ _ _ _ _ _ _ _ _ _ 0 [(0, .ref o), (1, .int (nI c)), (2, .int (nI 1))] []
  refine g_iload_n (q := 1) dX9_starts_0 rfl rfl ?_
  refine g_ifN_ne (q := 4) (t := 10) dX9_starts_1 rfl (by decide) (by omega) (fun _ => ?_) (fun c => absurd c (by omega))
  refine g_aload_n (q := 11) dX9_starts_10 rfl rfl ?_
  refine gb_callV (q := 14) (j := 0) (i := 0) dX9_starts_11 rfl kv_X9_139 (c_madvance (I := I) (A := A) (p := kE t) hb hn h11 h9 (by omega) hq.2.1 (hB.1.at (j := 0) rfl)) rfl (by decide) hB rfl rfl rfl rfl (bz_le rfl) (by decide) (by decide) (fun r g1 hQ => ?_)
  obtain ⟨rfl, I1, t1, h1, rfl, hq1, hf1⟩ := hQ
  have hB := hB.sp (j := 0) rfl 0 rfl h1 (bz_le rfl)
  refine g_iconst (q := 15) (v := (nI 1)) dX9_starts_14 rfl (by decide) ?_
  exact g_zret dX9_starts_15 rfl rfl ⟨rfl, I1, hB, hq1, hf1⟩
set_option maxRecDepth 20000 in
set_option maxHeartbeats 1000000 in
theorem c_mstarts1 {l : Launch} {E : bz_E} {L : List Nat} {g : Nat → va_E} {o : Nat} {I : Nat → Int32} {A : Nat → Nat → Int32} {b : Nat → Nat} {n : Nat} {t : Tok} {c : Nat} (ht : t_is b n t) (hq : q_tk I t) (h16 : I 16 = nI 0) (hH : bz_H L g o (b_Mod E o I A)) : bz_K l E mX9_starts 2 [.ref o, .int (nI c), .int (nI 0)] L g (fun r g1 => r = some (.int (nI 0)) ∧ bz_B L g g1 [(o, b_Mod E o (va_up (va_up I 16 (nI c)) 17 (nI (kS t))) A)]) := by
  refine bz_K.of (by decide) (bz_le rfl) (fun sz => ?_)
  have hB := bz_B.rf (bz_W.one hH)
  show bz_G _ _ _ _ _ _ _ _ _ _ _ _ 0 [(0, .ref o), (1, .int (nI c)), (2, .int (nI 0))] []
  refine g_iload_n (q := 1) dX9_starts_0 rfl rfl ?_
  refine g_ifN_ne (q := 4) (t := 10) dX9_starts_1 rfl (by decide) (by omega) (fun c => absurd c (by omega)) (fun _ => ?_)
  refine g_aload_n (q := 5) dX9_starts_4 rfl rfl ?_
  refine g_iload_n (q := 6) dX9_starts_5 rfl rfl ?_
  refine gb_callV (q := 9) (j := 0) (i := 0) dX9_starts_6 rfl kv_X9_133 (c_mfails (I := I) (A := A) (c := c) h16 hq.1 (hB.1.at (j := 0) rfl)) rfl (by decide) hB rfl rfl rfl rfl (bz_le rfl) (by decide) (by decide) (fun r g1 hQ => ?_)
  obtain ⟨rfl, h1⟩ := hQ
  have hB := hB.sp (j := 0) rfl 0 rfl h1 (bz_le rfl)
  exact g_zret dX9_starts_9 rfl rfl ⟨rfl, hB⟩
set_option maxRecDepth 20000 in
set_option maxHeartbeats 1000000 in
theorem c_mcloses0 {l : Launch} {E : bz_E} {L : List Nat} {g : Nat → va_E} {o : Nat} {I : Nat → Int32} {A : Nat → Nat → Int32} {b : Nat → Nat} {n : Nat} {t : Tok} {c : Nat} (hb : ∀ i, b i < 256) (hn : n ≤ 600) (h11 : I 11 = nI n) (h9 : ∀ i, i < 600 → A 9 i = s8 (b i)) (hc : 3 < c ∧ c < 256) (ht : t_is b n t) (hq : q_tk I t) (hk : kK t = c) (hH : bz_H L g o (b_Mod E o I A)) : bz_K l E mX9_closes 2 [.ref o, .int (nI c)] L g (fun r g1 => r = some (.int (nI 1)) ∧ ∃ I1 : Nat → Int32, bz_B L g g1 [(o, b_Mod E o I1 A)] ∧ q_tk I1 (t_nx b n t) ∧ ∀ i, q_o i → I1 i = I i) := by
  refine bz_K.of (by decide) (bz_le rfl) (fun sz => ?_)
  have hB := bz_B.rf (bz_W.one hH)
  have hle := ht.le
  show bz_G _ _ _ _ _ _ _ _ _ _ _ _ 0 [(0, .ref o), (1, .int (nI c))] []
  refine g_aload_n (q := 1) dX9_closes_0 rfl rfl ?_
  refine g_iload_n (q := 2) dX9_closes_1 rfl rfl ?_
  refine gb_callV (q := 5) (j := 0) (i := 0) dX9_closes_2 rfl kv_X9_142 (c_misSignHere (t := t) (c := c) hb hc ht hq (hB.1.at (j := 0) rfl)) rfl (by decide) hB rfl rfl rfl rfl (bz_le rfl) (by decide) (by decide) (fun r g1 hQ => ?_)
  obtain ⟨rfl, hg⟩ := hQ
  have hg := hg.symm
  subst hg
  refine g_eqi (v := nI 1) (by rw [decide_eq_true hk]; rfl) ?_
  refine g_if_ne (q := 8) (t := 14) dX9_closes_5 rfl (by decide) (fun _ => ?_) (fun c => absurd c (by decide))
  refine g_aload_n (q := 15) dX9_closes_14 rfl rfl ?_
  refine gb_callV (q := 18) (j := 0) (i := 0) dX9_closes_15 rfl kv_X9_139 (c_madvance (I := I) (A := A) (p := kE t) hb hn h11 h9 (by omega) hq.2.1 (hB.1.at (j := 0) rfl)) rfl (by decide) hB rfl rfl rfl rfl (bz_le rfl) (by decide) (by decide) (fun r g1 hQ => ?_)
  obtain ⟨rfl, I1, t1, h1, rfl, hq1, hf1⟩ := hQ
  have hB := hB.sp (j := 0) rfl 0 rfl h1 (bz_le rfl)
  refine g_iconst (q := 19) (v := (nI 1)) dX9_closes_18 rfl (by decide) ?_
  exact g_zret dX9_closes_19 rfl rfl ⟨rfl, I1, hB, hq1, hf1⟩
set_option maxRecDepth 20000 in
set_option maxHeartbeats 1000000 in
theorem c_mcloses1 {l : Launch} {E : bz_E} {L : List Nat} {g : Nat → va_E} {o : Nat} {I : Nat → Int32} {A : Nat → Nat → Int32} {b : Nat → Nat} {n : Nat} {t : Tok} {c : Nat} (hb : ∀ i, b i < 256) (hc : 3 < c ∧ c < 256) (ht : t_is b n t) (hq : q_tk I t) (h16 : I 16 = nI 0) (hk : kK t ≠ c) (hH : bz_H L g o (b_Mod E o I A)) : bz_K l E mX9_closes 2 [.ref o, .int (nI c)] L g (fun r g1 => r = some (.int (nI 0)) ∧ bz_B L g g1 [(o, b_Mod E o (va_up (va_up I 16 (nI 1)) 17 (nI (kS t))) A)]) := by
  refine bz_K.of (by decide) (bz_le rfl) (fun sz => ?_)
  have hB := bz_B.rf (bz_W.one hH)
  show bz_G _ _ _ _ _ _ _ _ _ _ _ _ 0 [(0, .ref o), (1, .int (nI c))] []
  refine g_aload_n (q := 1) dX9_closes_0 rfl rfl ?_
  refine g_iload_n (q := 2) dX9_closes_1 rfl rfl ?_
  refine gb_callV (q := 5) (j := 0) (i := 0) dX9_closes_2 rfl kv_X9_142 (c_misSignHere (t := t) (c := c) hb hc ht hq (hB.1.at (j := 0) rfl)) rfl (by decide) hB rfl rfl rfl rfl (bz_le rfl) (by decide) (by decide) (fun r g1 hQ => ?_)
  obtain ⟨rfl, hg⟩ := hQ
  have hg := hg.symm
  subst hg
  refine g_eqi (v := nI 0) (by rw [decide_eq_false hk]; rfl) ?_
  refine g_if_ne (q := 8) (t := 14) dX9_closes_5 rfl (by decide) (fun c => absurd c (fun q => q rfl)) (fun _ => ?_)
  refine g_aload_n (q := 9) dX9_closes_8 rfl rfl ?_
  refine g_iconst (q := 10) (v := (nI 1)) dX9_closes_9 rfl (by decide) ?_
  refine gb_callV (q := 13) (j := 0) (i := 0) dX9_closes_10 rfl kv_X9_133 (c_mfails (I := I) (A := A) (c := 1) h16 hq.1 (hB.1.at (j := 0) rfl)) rfl (by decide) hB rfl rfl rfl rfl (bz_le rfl) (by decide) (by decide) (fun r g1 hQ => ?_)
  obtain ⟨rfl, h1⟩ := hQ
  have hB := hB.sp (j := 0) rfl 0 rfl h1 (bz_le rfl)
  exact g_zret dX9_closes_13 rfl rfl ⟨rfl, hB⟩
set_option maxRecDepth 20000 in
set_option maxHeartbeats 1000000 in
theorem c_memit {l : Launch} {E : bz_E} {L : List Nat} {g : Nat → va_E} {o : Nat} {I : Nat → Int32} {A : Nat → Nat → Int32} {a m : Nat} {c : Int32} (ha : a < 2) (hm : m < 620) (h20 : I 20 = nI a) (h7 : A 7 (2 + a) = nI m) (hH : bz_H L g o (b_Mod E o I A)) : bz_K l E mX9_emit 0 [.ref o, .int c] L g (fun r g1 => r = some (.int (nI 1)) ∧ bz_B L g g1 [(o, b_Mod E o I (va_up (va_up A 8 (upd (A 8) (620 * (2 + a) + m) c)) 7 (upd (A 7) (2 + a) (nI (m + 1)))))]) := by
  refine bz_K.of (by decide) (bz_le rfl) (fun sz => ?_)
  have hB := bz_B.rf (bz_W.one hH)
  show bz_G _ _ _ _ _ _ _ _ _ _ _ _ 0 [(0, .ref o), (1, .int c)] []
  refine g_aload_n (q := 1) dX9_emit_0 rfl rfl ?_
  refine gb_getf (q := 4) (j := 0) (i := 0) dX9_emit_1 rfl fl_X9_31 hB rfl rfl rfl rfl ?_
  refine g_sipush (q := 7) (v := (nI 620)) dX9_emit_4 rfl (by decide) ?_
  refine g_iconst (q := 8) (v := (nI 2)) dX9_emit_7 rfl (by decide) ?_
  refine g_aload_n (q := 9) dX9_emit_8 rfl rfl ?_
  refine gb_getf (q := 12) (j := 0) (i := 0) dX9_emit_9 rfl fl_X9_81 hB rfl rfl rfl rfl ?_
  refine g_eqi (v := nI (a)) (h20) ?_
  refine g_iaddN (q := 13) dX9_emit_12 rfl ?_
  refine g_imulN (q := 14) dX9_emit_13 rfl ?_
  refine g_aload_n (q := 15) dX9_emit_14 rfl rfl ?_
  refine gb_getf (q := 18) (j := 0) (i := 0) dX9_emit_15 rfl fl_X9_28 hB rfl rfl rfl rfl ?_
  refine g_iconst (q := 19) (v := (nI 2)) dX9_emit_18 rfl (by decide) ?_
  refine g_aload_n (q := 20) dX9_emit_19 rfl rfl ?_
  refine gb_getf (q := 23) (j := 0) (i := 0) dX9_emit_20 rfl fl_X9_81 hB rfl rfl rfl rfl ?_
  refine g_eqi (v := nI (a)) (h20) ?_
  refine g_iaddN (q := 24) dX9_emit_23 rfl ?_
  refine gb_ialdN (q := 25) (j := 0) (i := 7) dX9_emit_24 rfl hB rfl rfl rfl (by omega) (by decide) ?_
  refine g_eqi (v := nI (m)) (h7) ?_
  refine g_iaddN (q := 26) dX9_emit_25 rfl ?_
  refine g_iload_n (q := 27) dX9_emit_26 rfl rfl ?_
  refine gb_iastN (q := 28) (j := 0) (i := 8) dX9_emit_27 rfl hB rfl rfl rfl (by omega) (by decide) (fun g hB => ?_)
  refine g_aload_n (q := 29) dX9_emit_28 rfl rfl ?_
  refine gb_getf (q := 32) (j := 0) (i := 0) dX9_emit_29 rfl fl_X9_28 hB rfl rfl rfl rfl ?_
  refine g_iconst (q := 33) (v := (nI 2)) dX9_emit_32 rfl (by decide) ?_
  refine g_aload_n (q := 34) dX9_emit_33 rfl rfl ?_
  refine gb_getf (q := 37) (j := 0) (i := 0) dX9_emit_34 rfl fl_X9_81 hB rfl rfl rfl rfl ?_
  refine g_eqi (v := nI (a)) (h20) ?_
  refine g_iaddN (q := 38) dX9_emit_37 rfl ?_
  refine g_dup2 (q := 39) dX9_emit_38 rfl rfl rfl ?_
  refine gb_ialdN (q := 40) (j := 0) (i := 7) dX9_emit_39 rfl hB rfl rfl rfl (by omega) (by decide) ?_
  refine g_eqi (v := nI (m)) (h7) ?_
  refine g_iconst (q := 41) (v := (nI 1)) dX9_emit_40 rfl (by decide) ?_
  refine g_iaddN (q := 42) dX9_emit_41 rfl ?_
  refine gb_iastN (q := 43) (j := 0) (i := 7) dX9_emit_42 rfl hB rfl rfl rfl (by omega) (by decide) (fun g hB => ?_)
  refine g_iconst (q := 44) (v := (nI 1)) dX9_emit_43 rfl (by decide) ?_
  exact g_zret dX9_emit_44 rfl rfl ⟨rfl, hB⟩
