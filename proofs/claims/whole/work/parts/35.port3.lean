/-! class Port: finishes, workInTick, firstDueAfter -/
theorem s_setself : ∀ {l : List Tx} {p : Nat} {x : Tx}, l[p]? = some x → l.set p x = l
  | [], p, x, h => by simp at h
  | a :: r, 0, x, h => by simp at h; simp [h]
  | a :: r, p + 1, x, h => by simp at h ⊢; exact s_setself h
theorem s_ans_ok {mem : Nat → Int32} {now room sp : Nat} {x : Tx} : ∀ (m : Nat) (q : List Tx) (off : Nat), off ≤ tW x → (s_ans mem now room sp x m q off).2 ≤ tW x
  | 0, q, off, h => h
  | m + 1, q, off, h => by
    rw [s_ans]
    by_cases c : off < tW x ∧ s_cnt 3 q < room
    · rw [if_pos c]; exact s_ans_ok m _ _ (by omega)
    · rw [if_neg c]; exact h
theorem s_one_ok {now room sp : Nat} {x : Tx} {S : Wk} (h : s_ok x) : s_ok (s_one now room sp x S).2.1 ∧ tK (s_one now room sp x S).2.1 = tK x ∧ tM (s_one now room sp x S).2.1 = tM x := by
  unfold s_one
  by_cases h0 : tK x = 0
  · rw [if_pos h0]; exact ⟨h, rfl, rfl⟩
  · rw [if_neg h0]
    by_cases h1 : tK x = 1
    · rw [if_pos h1]
      obtain ⟨x1, x2, x3, x4, x5, x6, x7, x8, x9, x10⟩ := id h
      have := s_ans_ok (mem := S.2.2) (now := now) (room := room) (sp := sp) (x := x) 4 S.1 (tO x) (x10 h1)
      refine ⟨⟨x1, x2, x3, x4, x5, ?_, x7, x8, ?_, fun _ => this⟩, rfl, rfl⟩
      · show (s_ans S.2.2 now room sp x 4 S.1 (tO x)).2 ≤ 4
        omega
      · intro h3
        have : tK x = 3 := h3
        omega
    · rw [if_neg h1]
      by_cases h2 : tK x = 2
      · rw [if_pos h2]
        by_cases c : s_cnt 3 S.1 < room
        · rw [if_pos c]; exact ⟨h, rfl, rfl⟩
        · rw [if_neg c]; exact ⟨h, rfl, rfl⟩
      · rw [if_neg h2]; exact ⟨h, rfl, rfl⟩

set_option maxRecDepth 20000 in
set_option maxHeartbeats 1000000 in
theorem c_finishes {l : Launch} {E : bz_E} {L : List Nat} {g : Nat → va_E} {o p now room sp : Nat} {x : Tx} {Q W : List Tx} {T : Tg} {fq cq fw cw s wn cm wd mem : Nat → Int32} {a b c : Int32} (hnow : now < 100000) (hroom : room ≤ 8) (hsp : 1 ≤ sp ∧ sp ≤ 4) (hpx : W[p]? = some x) (hW : s_ln fw cw W) (hWo : s_lok W) (hQo : s_lok Q) (hs : s_ln fq cq Q) (hT : s_tg s wn cm wd T) (hH : bz_H L g o (b_Port E o fq cq (nI Q.length) fw cw (nI W.length) s wn cm wd mem a b c)) : bz_K l E mX4_finishes 4 [.ref o, .int (nI p), .int (nI now), .int (nI room), .int (nI sp)] L g (fun r g1 => r = some (.int (tB (s_one now room sp x (Q, T, mem)).1)) ∧ ∃ f1 c1 fw1 s1 cm1 wd1 : Nat → Int32, bz_B L g g1 [(o, (b_Port E o f1 c1 (nI (s_one now room sp x (Q, T, mem)).2.2.1.length) fw1 cw (nI W.length) s1 wn cm1 wd1 (s_one now room sp x (Q, T, mem)).2.2.2.2 a b c))] ∧ s_ln f1 c1 (s_one now room sp x (Q, T, mem)).2.2.1 ∧ s_lok (s_one now room sp x (Q, T, mem)).2.2.1 ∧ s_ln fw1 cw (W.set p (s_one now room sp x (Q, T, mem)).2.1) ∧ s_tg s1 wn cm1 wd1 (s_one now room sp x (Q, T, mem)).2.2.2.1) := by
  refine bz_K.of (by decide) (bz_le rfl) (fun sz => ?_)
  have hB := bz_B.rf (bz_W.one hH)
  show bz_G _ _ _ _ _ _ _ _ _ _ _ _ 0 [(0, .ref o), (1, .int (nI p)), (2, .int (nI now)), (3, .int (nI room)), (4, .int (nI sp))] []
  have hx := hW.1 p x hpx
  have hxo := hWo.1 x (List.mem_of_getElem? hpx)
  have hp : p < 32 := by have := (List.getElem?_eq_some_iff.mp hpx).1; have := hWo.len; omega
  have hk4 := hxo.1
  rcases (show tK x = 0 ∨ tK x = 1 ∨ tK x = 2 ∨ tK x = 3 by omega) with hk | hk | hk | hk
  · have e1 : (s_one now room sp x (Q, T, mem)) = (true, x, Q, T, s_wr mem (tA x) (tV x)) := by unfold s_one; rw [if_pos hk]
    refine g_aload_n (q := 1) dX4_finishes_0 rfl rfl ?_
    refine gb_getf (q := 4) (j := 0) (i := 0) dX4_finishes_1 rfl fl_X4_18 hB rfl rfl rfl rfl ?_
    refine g_iload_n (q := 5) dX4_finishes_4 rfl rfl ?_
    refine g_iconst (q := 6) (v := (nI 0)) dX4_finishes_5 rfl (by decide) ?_
    refine gb_callV (q := 9) (j := 0) (i := 4) dX4_finishes_6 rfl kv_X4_71 (c_get (x := 0) (by omega) ((hB.1.at (j := 0) rfl).sub 4 rfl)) rfl (by decide) hB rfl rfl rfl rfl (bz_le rfl) (by decide) (by decide) (fun r g1 hQ => ?_)
    obtain ⟨rfl, hg⟩ := hQ
    have hg := hg.symm
    subst hg
    refine g_eqi (v := nI 0) (hx.1.trans (by rw [hk])) ?_
    refine g_tableIn (t := 36) dX4_finishes_9 (by decide) (by decide) rfl (by decide) ?_
    refine g_aload_n (q := 37) dX4_finishes_36 rfl rfl ?_
    refine g_iload_n (q := 38) dX4_finishes_37 rfl rfl ?_
    refine gb_callV (q := 41) (j := 0) (i := 0) dX4_finishes_38 rfl kv_X4_89 (c_writeMemory hp hx (hxo.2.2.2.2.2.2.2.1 (Or.inl hk)) hxo.2.2.1 hxo.2.2.2.1 (hB.1.at (j := 0) rfl)) rfl (by decide) hB rfl rfl rfl rfl (bz_le rfl) (by decide) (by decide) (fun r g1 hQ => ?_)
    obtain ⟨rfl, h1⟩ := hQ
    have hB := hB.sp (j := 0) rfl 0 rfl h1 (bz_le rfl)
    refine g_iconst (q := 42) (v := (nI 1)) dX4_finishes_41 rfl (by decide) ?_
    exact g_zret dX4_finishes_42 rfl rfl ⟨by rw [e1]; rfl, fq, cq, fw, s, cm, wd, by rw [e1]; exact hB, by rw [e1]; exact hs, by rw [e1]; exact hQo, by rw [e1]; show s_ln fw cw (W.set p x); rw [s_setself hpx]; exact hW, by rw [e1]; exact hT⟩
  · have e1 : (s_one now room sp x (Q, T, mem)) = (decide (tW x ≤ (s_ans mem now room sp x 4 Q (tO x)).2), (tK x, tT x, tR x, tA x, tW x, tM x, (s_ans mem now room sp x 4 Q (tO x)).2, tV x), (s_ans mem now room sp x 4 Q (tO x)).1, T, mem) := by unfold s_one; rw [if_neg (by omega), if_pos hk]
    refine g_aload_n (q := 1) dX4_finishes_0 rfl rfl ?_
    refine gb_getf (q := 4) (j := 0) (i := 0) dX4_finishes_1 rfl fl_X4_18 hB rfl rfl rfl rfl ?_
    refine g_iload_n (q := 5) dX4_finishes_4 rfl rfl ?_
    refine g_iconst (q := 6) (v := (nI 0)) dX4_finishes_5 rfl (by decide) ?_
    refine gb_callV (q := 9) (j := 0) (i := 4) dX4_finishes_6 rfl kv_X4_71 (c_get (x := 0) (by omega) ((hB.1.at (j := 0) rfl).sub 4 rfl)) rfl (by decide) hB rfl rfl rfl rfl (bz_le rfl) (by decide) (by decide) (fun r g1 hQ => ?_)
    obtain ⟨rfl, hg⟩ := hQ
    have hg := hg.symm
    subst hg
    refine g_eqi (v := nI 1) (hx.1.trans (by rw [hk])) ?_
    refine g_tableIn (t := 43) dX4_finishes_9 (by decide) (by decide) rfl (by decide) ?_
    refine g_aload_n (q := 44) dX4_finishes_43 rfl rfl ?_
    refine g_iload_n (q := 45) dX4_finishes_44 rfl rfl ?_
    refine g_iload_n (q := 46) dX4_finishes_45 rfl rfl ?_
    refine g_iload_n (q := 47) dX4_finishes_46 rfl rfl ?_
    refine g_iload (q := 49) dX4_finishes_47 rfl rfl ?_
    refine gb_callV (q := 52) (j := 0) (i := 0) dX4_finishes_49 rfl kv_X4_92 (c_answerRead hnow hroom hsp hpx hk hW hWo hQo hs (hB.1.at (j := 0) rfl)) rfl (by decide) hB rfl rfl rfl rfl (bz_le rfl) (by decide) (by decide) (fun r g1 hQ => ?_)
    obtain ⟨rfl, f1, c1, fw1, h1, hs1, hQ1, hw1⟩ := hQ
    have hB := hB.sp (j := 0) rfl 0 rfl h1 (bz_le rfl)
    exact g_zret dX4_finishes_52 rfl (by split <;> rfl) ⟨by rw [e1]; simp only [tB]; split <;> simp_all, f1, c1, fw1, s, cm, wd, by rw [e1]; exact hB, by rw [e1]; exact hs1, by rw [e1]; exact hQ1, by rw [e1]; exact hw1, by rw [e1]; exact hT⟩
  · by_cases hc : s_cnt 3 Q < room
    · have e1 : (s_one now room sp x (Q, T, mem)) = (true, x, Q ++ [s_cmp mem x 0 0 now], T, s_wr mem (tA x) (tV x)) := by unfold s_one; rw [if_neg (by omega), if_neg (by omega), if_pos hk, if_pos hc]
      refine g_aload_n (q := 1) dX4_finishes_0 rfl rfl ?_
      refine gb_getf (q := 4) (j := 0) (i := 0) dX4_finishes_1 rfl fl_X4_18 hB rfl rfl rfl rfl ?_
      refine g_iload_n (q := 5) dX4_finishes_4 rfl rfl ?_
      refine g_iconst (q := 6) (v := (nI 0)) dX4_finishes_5 rfl (by decide) ?_
      refine gb_callV (q := 9) (j := 0) (i := 4) dX4_finishes_6 rfl kv_X4_71 (c_get (x := 0) (by omega) ((hB.1.at (j := 0) rfl).sub 4 rfl)) rfl (by decide) hB rfl rfl rfl rfl (bz_le rfl) (by decide) (by decide) (fun r g1 hQ => ?_)
      obtain ⟨rfl, hg⟩ := hQ
      have hg := hg.symm
      subst hg
      refine g_eqi (v := nI 2) (hx.1.trans (by rw [hk])) ?_
      refine g_tableIn (t := 53) dX4_finishes_9 (by decide) (by decide) rfl (by decide) ?_
      refine g_aload_n (q := 54) dX4_finishes_53 rfl rfl ?_
      refine g_iload_n (q := 55) dX4_finishes_54 rfl rfl ?_
      refine g_iload_n (q := 56) dX4_finishes_55 rfl rfl ?_
      refine g_iload_n (q := 57) dX4_finishes_56 rfl rfl ?_
      refine gb_callV (q := 60) (j := 0) (i := 0) dX4_finishes_57 rfl kv_X4_95 (c_ansC1 hc hp hx hk hxo hQo hs hroom (hB.1.at (j := 0) rfl)) rfl (by decide) hB rfl rfl rfl rfl (bz_le rfl) (by decide) (by decide) (fun r g1 hQ => ?_)
      obtain ⟨rfl, f1, c1, h1, hs1⟩ := hQ
      have hB := hB.sp (j := 0) rfl 0 rfl h1 (bz_le rfl)
      exact g_zret dX4_finishes_60 rfl rfl ⟨by rw [e1]; rfl, f1, c1, fw, s, cm, wd, by rw [e1]; show bz_B _ _ _ [(o, b_Port E o f1 c1 (nI (Q ++ [_]).length) _ _ _ _ _ _ _ _ _ _ _)]; rw [List.length_append]; exact hB, by rw [e1]; exact hs1, by rw [e1]; exact hQo.app (s_cmp_ok hxo (by omega) hnow) (show s_cnt 3 Q < 8 by omega), by rw [e1]; show s_ln fw cw (W.set p x); rw [s_setself hpx]; exact hW, by rw [e1]; exact hT⟩
    · have e1 : (s_one now room sp x (Q, T, mem)) = (false, x, Q, T, mem) := by unfold s_one; rw [if_neg (by omega), if_neg (by omega), if_pos hk, if_neg hc]
      refine g_aload_n (q := 1) dX4_finishes_0 rfl rfl ?_
      refine gb_getf (q := 4) (j := 0) (i := 0) dX4_finishes_1 rfl fl_X4_18 hB rfl rfl rfl rfl ?_
      refine g_iload_n (q := 5) dX4_finishes_4 rfl rfl ?_
      refine g_iconst (q := 6) (v := (nI 0)) dX4_finishes_5 rfl (by decide) ?_
      refine gb_callV (q := 9) (j := 0) (i := 4) dX4_finishes_6 rfl kv_X4_71 (c_get (x := 0) (by omega) ((hB.1.at (j := 0) rfl).sub 4 rfl)) rfl (by decide) hB rfl rfl rfl rfl (bz_le rfl) (by decide) (by decide) (fun r g1 hQ => ?_)
      obtain ⟨rfl, hg⟩ := hQ
      have hg := hg.symm
      subst hg
      refine g_eqi (v := nI 2) (hx.1.trans (by rw [hk])) ?_
      refine g_tableIn (t := 53) dX4_finishes_9 (by decide) (by decide) rfl (by decide) ?_
      refine g_aload_n (q := 54) dX4_finishes_53 rfl rfl ?_
      refine g_iload_n (q := 55) dX4_finishes_54 rfl rfl ?_
      refine g_iload_n (q := 56) dX4_finishes_55 rfl rfl ?_
      refine g_iload_n (q := 57) dX4_finishes_56 rfl rfl ?_
      refine gb_callV (q := 60) (j := 0) (i := 0) dX4_finishes_57 rfl kv_X4_95 (c_ansC0 hc hp hx hk hxo hQo hs hroom (hB.1.at (j := 0) rfl)) rfl (by decide) hB rfl rfl rfl rfl (bz_le rfl) (by decide) (by decide) (fun r g1 hQ => ?_)
      obtain ⟨rfl, hg⟩ := hQ
      have hg := hg.symm
      subst hg
      exact g_zret dX4_finishes_60 rfl rfl ⟨by rw [e1]; rfl, fq, cq, fw, s, cm, wd, by rw [e1]; exact hB, by rw [e1]; exact hs, by rw [e1]; exact hQo, by rw [e1]; show s_ln fw cw (W.set p x); rw [s_setself hpx]; exact hW, by rw [e1]; exact hT⟩
  · have e1 : (s_one now room sp x (Q, T, mem)) = (true, x, Q, s_cpl (tT x) (s_sto (tT x) (tO x) (tV x) T), mem) := by unfold s_one; rw [if_neg (by omega), if_neg (by omega), if_neg (by omega)]
    refine g_aload_n (q := 1) dX4_finishes_0 rfl rfl ?_
    refine gb_getf (q := 4) (j := 0) (i := 0) dX4_finishes_1 rfl fl_X4_18 hB rfl rfl rfl rfl ?_
    refine g_iload_n (q := 5) dX4_finishes_4 rfl rfl ?_
    refine g_iconst (q := 6) (v := (nI 0)) dX4_finishes_5 rfl (by decide) ?_
    refine gb_callV (q := 9) (j := 0) (i := 4) dX4_finishes_6 rfl kv_X4_71 (c_get (x := 0) (by omega) ((hB.1.at (j := 0) rfl).sub 4 rfl)) rfl (by decide) hB rfl rfl rfl rfl (bz_le rfl) (by decide) (by decide) (fun r g1 hQ => ?_)
    obtain ⟨rfl, hg⟩ := hQ
    have hg := hg.symm
    subst hg
    refine g_eqi (v := nI 3) (hx.1.trans (by rw [hk])) ?_
    refine g_tableOut (t := 61) dX4_finishes_9 (by decide) (by decide) ?_
    refine g_aload_n (q := 62) dX4_finishes_61 rfl rfl ?_
    refine g_iload_n (q := 63) dX4_finishes_62 rfl rfl ?_
    refine gb_callV (q := 66) (j := 0) (i := 0) dX4_finishes_63 rfl kv_X4_99 (c_storeCompletion hp hx hk hxo hT (hB.1.at (j := 0) rfl)) rfl (by decide) hB rfl rfl rfl rfl (bz_le rfl) (by decide) (by decide) (fun r g1 hQ => ?_)
    obtain ⟨rfl, s1, cm1, wd1, h1, hT1⟩ := hQ
    have hB := hB.sp (j := 0) rfl 0 rfl h1 (bz_le rfl)
    refine g_iconst (q := 67) (v := (nI 1)) dX4_finishes_66 rfl (by decide) ?_
    exact g_zret dX4_finishes_67 rfl rfl ⟨by rw [e1]; rfl, fq, cq, fw, s1, cm1, wd1, by rw [e1]; exact hB, by rw [e1]; exact hs, by rw [e1]; exact hQo, by rw [e1]; show s_ln fw cw (W.set p x); rw [s_setself hpx]; exact hW, by rw [e1]; exact hT1⟩
