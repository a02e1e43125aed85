/-! the reference: completeTick, run -/
def s_tgs (s : Nat) (σ : Si) : Tg := if s = 0 then σ.2.1.2.2.1 else σ.2.2.2.2.1
theorem m_st_tg {N : Nat → Int32} {σ : Si} {s t : Nat} (h : m_st N σ) (hs : s < 2) (ht : t < 8) : N (43 + 7 * (8 * s + t) + 0) = nI ((s_tgs s σ).1 t) := by
  rcases (show s = 0 ∨ s = 1 by omega) with rfl | rfl
  · exact (h.2.1.2.2.2.2.2.2.1 t ht).1
  · exact (h.2.2.2.2.2.2.2.2.1 t ht).1
theorem s_sto_11 (t : Nat) : ∀ (vs : List Int32) (i : Nat) (T : Tg), (s_sto t i vs T).1 = T.1
  | [], i, T => rfl
  | v :: r, i, T => by rw [s_sto, s_sto_11 t r]
theorem s_one_t {now room sp : Nat} {x : Tx} {S : Wk} (u : Nat) : (s_one now room sp x S).2.2.2.1.1 u = S.2.1.1 u ∨ (s_one now room sp x S).2.2.2.1.1 u = 2 := by
  unfold s_one
  by_cases h0 : tK x = 0
  · rw [if_pos h0]; exact Or.inl rfl
  · rw [if_neg h0]
    by_cases h1 : tK x = 1
    · rw [if_pos h1]; exact Or.inl rfl
    · rw [if_neg h1]
      by_cases h2 : tK x = 2
      · rw [if_pos h2]
        by_cases c : s_cnt 3 S.1 < room
        · rw [if_pos c]; exact Or.inl rfl
        · rw [if_neg c]; exact Or.inl rfl
      · rw [if_neg h2]
        unfold s_cpl
        dsimp only
        by_cases c : v_pc ((s_sto (tT x) (tO x) (tV x) S.2.1).2.2.1 (tT x)) < (s_sto (tT x) (tO x) (tV x) S.2.1).2.1 (tT x)
        · rw [if_pos c, s_sto_11]; exact Or.inl rfl
        · rw [if_neg c, s_sto_11]
          unfold va_up
          by_cases e : u = tT x
          · rw [if_pos e]; exact Or.inr rfl
          · rw [if_neg e]; exact Or.inl rfl
theorem s_work_t {now room sp : Nat} (u : Nat) : ∀ (W : List Tx) (S : Wk), (s_work now room sp W S).2.2.1.1 u = S.2.1.1 u ∨ (s_work now room sp W S).2.2.1.1 u = 2
  | [], S => Or.inl rfl
  | x :: r, S => by
    rw [s_work]
    by_cases c : tM x ≤ now
    · rw [if_pos c]
      rcases s_work_t u r (s_one now room sp x S).2.2 with h | h
      · rcases s_one_t (now := now) (room := room) (sp := sp) (x := x) (S := S) u with h2 | h2
        · exact Or.inl (h.trans h2)
        · exact Or.inr (h.trans h2)
      · exact Or.inr h
    · rw [if_neg c]; exact s_work_t u r S
theorem s_fwd_t {tb cr : Nat → Nat} {l : List Int32} {now : Nat} {P P1 : Po} : (s_fwd tb cr l now P P1).2.1.2.2.1 = P.2.2.1 ∧ (s_fwd tb cr l now P P1).2.2.2.2.1 = P1.2.2.1 := by
  unfold s_fwd
  cases s_next tb cr P1.2.1 [] P.1 with
  | none => exact ⟨rfl, rfl⟩
  | some i =>
    dsimp only
    cases P.1[i]? with
    | none => exact ⟨rfl, rfl⟩
    | some x => exact ⟨rfl, rfl⟩
def s_t2 (σ : Si) : Prop := ∀ t, t < 8 → σ.2.1.2.2.1.1 t ≤ 2 ∧ σ.2.2.2.2.1.1 t ≤ 2
theorem s_t2.tick {pl : Pl} {σ : Si} (h : s_t2 σ) : s_t2 (s_tick pl σ) := by
  intro t ht
  have f0 := s_fwd_t (tb := pl.2.2.1) (cr := fun k => pl.2.1 (4 + k)) (l := pl.2.2.2.2.2.2.2) (now := σ.1 + 1) (P := (s_t1 pl σ).2.1) (P1 := (s_t1 pl σ).2.2)
  have f1 := s_fwd_t (tb := pl.2.2.1) (cr := fun k => pl.2.1 (0 + k)) (l := pl.2.2.2.2.2.2.1) (now := σ.1 + 1) (P := (s_f0 pl (s_t1 pl σ)).2.2.2) (P1 := (s_f0 pl (s_t1 pl σ)).2.2.1)
  have e0 : (s_tick pl σ).2.1.2.2.1 = (s_t1 pl σ).2.1.2.2.1 := f1.2.trans f0.1
  have e1 : (s_tick pl σ).2.2.2.2.1 = (s_t1 pl σ).2.2.2.2.1 := f1.1.trans f0.2
  rw [e0, e1]
  refine ⟨?_, ?_⟩
  · rcases s_work_t (now := σ.1 + 1) (room := pl.1 3) (sp := pl.2.2.2.2.1) t σ.2.1.2.1 (σ.2.1.1, σ.2.1.2.2.1, σ.2.1.2.2.2.1) with e | e
    · exact Nat.le_trans (Nat.le_of_eq e) (h t ht).1
    · exact Nat.le_of_eq e
  · rcases s_work_t (now := σ.1 + 1) (room := pl.1 7) (sp := pl.2.2.2.2.1) t σ.2.2.2.1 (σ.2.2.1, σ.2.2.2.2.1, σ.2.2.2.2.2.1) with e | e
    · exact Nat.le_trans (Nat.le_of_eq e) (h t ht).2
    · exact Nat.le_of_eq e
theorem s_t2.run {pl : Pl} : ∀ (n : Nat) {σ : Si}, s_t2 σ → s_t2 (s_run pl n σ)
  | 0, _, h => h
  | n + 1, _, h => s_t2.run n h.tick
theorem s_t2.le {σ : Si} (h : s_t2 σ) {s t : Nat} (ht : t < 8) : (s_tgs s σ).1 t ≤ 2 := by
  unfold s_tgs
  by_cases c : s = 0
  · rw [if_pos c]; exact (h t ht).1
  · rw [if_neg c]; exact (h t ht).2
def s_cn (f : Nat → Nat) : Nat → Nat → Nat
  | 0, n => n
  | m + 1, n => if f n = 1 then s_cn f m (n + 1) else n
def s_st (pl : Pl) (σ : Si) (s t n : Nat) : Nat := (s_tgs s (s_run pl n σ)).1 t

set_option maxRecDepth 20000 in
set_option maxHeartbeats 1000000 in
theorem c_mcompleteTick2 {l : Launch} {E : bz_E} {L : List Nat} {g : Nat → va_E} {o : Nat} {I : Nat → Int32} {A : Nat → Nat → Int32} {v w : Int32} (hb : m_bad v 2 = true) (hH : bz_H L g o (b_Mod E o I A)) : bz_K l E mX9_completeTick 6 [.ref o, .int v, .int w] L g (fun r g1 => r = some (.int (nI 0)) ∧ bz_B L g g1 [(o, b_Mod E o (va_up I 0 (nI 1)) A)]) := by
  refine bz_K.of (by decide) (bz_le rfl) (fun sz => ?_)
  have hB := bz_B.rf (bz_W.one hH)
  show bz_G _ _ _ _ _ _ _ _ _ _ _ _ 0 [(0, .ref o), (1, .int v), (2, .int w)] []
  refine g_aload_n (q := 1) dX9_completeTick_0 rfl rfl ?_
  refine g_iload_n (q := 2) dX9_completeTick_1 rfl rfl ?_
  refine g_iload_n (q := 3) dX9_completeTick_2 rfl rfl ?_
  refine gb_callV (q := 6) (j := 0) (i := 0) dX9_completeTick_3 rfl kv_X9_249 (c_mnoTag2 hb (hB.1.at (j := 0) rfl)) rfl (by decide) hB rfl rfl rfl rfl (bz_le rfl) (by decide) (by decide) (fun r g1 hQ => ?_)
  obtain ⟨rfl, h1⟩ := hQ
  have hB := hB.sp (j := 0) rfl 0 rfl h1 (bz_le rfl)
  refine g_ifN_eq (q := 9) (t := 11) dX9_completeTick_6 rfl (by decide) (by omega) (fun c => absurd c (by omega)) (fun _ => ?_)
  refine g_iconst (q := 10) (v := (nI 0)) dX9_completeTick_9 rfl (by decide) ?_
  exact g_iret dX9_completeTick_10 rfl (⟨rfl, hB⟩)
set_option maxRecDepth 20000 in
set_option maxHeartbeats 1000000 in
theorem c_mcompleteTick1 {l : Launch} {E : bz_E} {L : List Nat} {g : Nat → va_E} {o : Nat} {I : Nat → Int32} {A : Nat → Nat → Int32} {s m : Nat} {v : Int32} (hs : s < 2) (hr : A 6 1 = nI m) (hb : m_bad v m = true) (hH : bz_H L g o (b_Mod E o I A)) : bz_K l E mX9_completeTick 6 [.ref o, .int (nI s), .int v] L g (fun r g1 => r = some (.int (nI 0)) ∧ bz_B L g g1 [(o, b_Mod E o (va_up I 0 (nI 1)) A)]) := by
  refine bz_K.of (by decide) (bz_le rfl) (fun sz => ?_)
  have hB := bz_B.rf (bz_W.one hH)
  show bz_G _ _ _ _ _ _ _ _ _ _ _ _ 0 [(0, .ref o), (1, .int (nI s)), (2, .int v)] []
  refine g_aload_n (q := 1) dX9_completeTick_0 rfl rfl ?_
  refine g_iload_n (q := 2) dX9_completeTick_1 rfl rfl ?_
  refine g_iload_n (q := 3) dX9_completeTick_2 rfl rfl ?_
  refine gb_callV (q := 6) (j := 0) (i := 0) dX9_completeTick_3 rfl kv_X9_249 (c_mnoTag1 hs hr hb (hB.1.at (j := 0) rfl)) rfl (by decide) hB rfl rfl rfl rfl (bz_le rfl) (by decide) (by decide) (fun r g1 hQ => ?_)
  obtain ⟨rfl, h1⟩ := hQ
  have hB := hB.sp (j := 0) rfl 0 rfl h1 (bz_le rfl)
  refine g_ifN_eq (q := 9) (t := 11) dX9_completeTick_6 rfl (by decide) (by omega) (fun c => absurd c (by omega)) (fun _ => ?_)
  refine g_iconst (q := 10) (v := (nI 0)) dX9_completeTick_9 rfl (by decide) ?_
  exact g_iret dX9_completeTick_10 rfl (⟨rfl, hB⟩)
set_option maxRecDepth 20000 in
set_option maxHeartbeats 1000000 in
theorem c_mcompleteTick0 {l : Launch} {E : bz_E} {L : List Nat} {g : Nat → va_E} {o : Nat} {I : Nat → Int32} {A : Nat → Nat → Int32} {s m k cn : Nat} {pl : Pl} {σ : Si} (hs : s < 2) (hr : A 6 1 = nI m) (hk : k < m) (hm : m < 2 ^ 31) (hm8 : m ≤ 8) (hcn : s_cn (s_st pl σ s k) 500 0 = cn) (ht2 : s_t2 σ) (hpl : m_pl A pl) (hst : m_st (A 1) σ) (hin : s_inv pl σ) (hnow : σ.1 < 20000) (hH : bz_H L g o (b_Mod E o I A)) : bz_K l E mX9_completeTick 6 [.ref o, .int (nI s), .int (nI k)] L g (fun r g1 => r = some (.int (if s_st pl σ s k cn = 2 then nI (σ.1 + cn) else -1)) ∧ ∃ (N W F v : Nat → Int32) (mv : Int32), bz_B L g g1 [(o, b_Mod E o (va_up (va_up I 0 (nI 0)) 24 mv) (va_up (va_up (va_up (va_up A 12 W) 11 F) 10 v) 1 N))] ∧ m_st N σ) := by
  refine bz_K.of (by decide) (bz_le rfl) (fun sz => ?_)
  show bz_G _ _ _ _ _ _ _ _ _ _ _ _ 0 [(0, .ref o), (1, .int (nI s)), (2, .int (nI k))] []
  have hB := bz_B.rf (bz_W.one hH)
  have hsp := hpl.2.2.2.2.1.1
  have hle : ∀ n, s_st pl σ s k n ≤ 2 := fun n => (ht2.run n).le (by omega)
  have hle0 := hle 0
  have hback : ∀ N : Nat → Int32, m_st (va_cpy (va_cpy (A 1) (A 12) 0 0 2075) N 0 0 2075) σ := fun N => m_st_fr hst (fun j hj => by
    have h9 := va_cpyin (f := (va_cpy (A 1) (A 12) 0 0 2075)) (h := N) (a := 0) (b := 0) hj
    have h8 := va_cpyin (f := A 1) (h := A 12) (a := 0) (b := 0) hj
    rw [Nat.zero_add] at h8 h9
    exact h9.trans h8)
  have X : ∀ (n : Nat) (N F v : Nat → Int32) (mv : Int32) (g1 : Nat → va_E), n = cn → m_st N (s_run pl n σ) → bz_B L g g1 [(o, (b_Mod E o (va_up (va_up I 0 (nI 0)) 24 mv) (va_up (va_up (va_up (va_up A 12 (va_cpy (A 1) (A 12) 0 0 2075)) 11 F) 10 v) 1 N)))] → bz_G l E mX9_completeTick (bz_R 6 0 0) L sz (bz_Fm E L sz (fun r g1 => r = some (.int (if s_st pl σ s k cn = 2 then nI (σ.1 + cn) else -1)) ∧ ∃ (N W F v : Nat → Int32) (mv : Int32), bz_B L g g1 [(o, b_Mod E o (va_up (va_up I 0 (nI 0)) 24 mv) (va_up (va_up (va_up (va_up A 12 W) 11 F) 10 v) 1 N))] ∧ m_st N σ)) sz 0 0 L g1 77 [(4, .int (nI n)), (3, .int (nI (43 + 7 * (8 * s + k) + 0))), (0, .ref o), (1, .int (nI s)), (2, .int (nI k))] [] := by
    intro n N F v mv g2 hc hN hB
    subst hc
    have hle1 := hle n
    refine g_aload_n (q := 78) dX9_completeTick_77 rfl rfl ?_
    refine gb_getf (q := 81) (j := 0) (i := 0) dX9_completeTick_78 rfl fl_X9_7 hB rfl rfl rfl rfl ?_
    refine g_iload_n (q := 82) dX9_completeTick_81 rfl rfl ?_
    refine gb_ialdN (q := 83) (j := 0) (i := 1) dX9_completeTick_82 rfl hB rfl rfl rfl (by omega) (by decide) ?_
    refine g_eqi (v := nI (s_st pl σ s k n)) (m_st_tg hN hs (by omega)) ?_
    refine g_iconst (q := 84) (v := (nI 2)) dX9_completeTick_83 rfl (by decide) ?_
    refine g_icmpN_ne (q := 87) (t := 96) dX9_completeTick_84 rfl (by decide) (by omega) (by omega) (fun c_84 => ?_) (fun c_84 => ?_)
    · refine g_iconst (q := 97) (v := (-1)) dX9_completeTick_96 rfl (by decide) ?_
      refine g_istore (q := 99) dX9_completeTick_97 rfl (by decide) rfl ?_
      refine g_aload_n (q := 100) dX9_completeTick_99 rfl rfl ?_
      refine gb_getf (q := 103) (j := 0) (i := 0) dX9_completeTick_100 rfl fl_X9_48 hB rfl rfl rfl rfl ?_
      refine g_iconst (q := 104) (v := (nI 0)) dX9_completeTick_103 rfl (by decide) ?_
      refine g_aload_n (q := 105) dX9_completeTick_104 rfl rfl ?_
      refine gb_getf (q := 108) (j := 0) (i := 0) dX9_completeTick_105 rfl fl_X9_7 hB rfl rfl rfl rfl ?_
      refine g_iconst (q := 109) (v := (nI 0)) dX9_completeTick_108 rfl (by decide) ?_
      refine g_sipush (q := 112) (v := (nI 2075)) dX9_completeTick_109 rfl (by decide) ?_
      refine g_callS (q := 115) dX9_completeTick_112 rfl ks_X9_305 rfl (c_copies0 (p := o + 12) (q := o + 1) (n1 := 2075) (n2 := 2075) (f := (va_cpy (A 1) (A 12) 0 0 2075)) (h := N) (a := 0) (b := 0) (n := 2075) ((hB.1.at (j := 0) rfl).sub 12 rfl) ((hB.1.at (j := 0) rfl).sub 1 rfl) (by omega) (by omega) (by omega) (by decide) (by decide)) (by decide) rfl (bz_le rfl) (by decide) (by decide) (fun r g1 hQ => ?_)
      obtain ⟨rfl, h1⟩ := hQ
      have hB := hB.sp (j := 0) rfl 1 rfl h1 (bz_le rfl)
      refine g_iload (q := 117) dX9_completeTick_115 rfl rfl ?_
      exact g_iret dX9_completeTick_117 rfl (⟨by first | rw [if_pos (by omega)] | rw [if_neg (by omega)], _, (va_cpy (A 1) (A 12) 0 0 2075), F, v, mv, hB, hback N⟩)
    · refine g_aload_n (q := 88) dX9_completeTick_87 rfl rfl ?_
      refine gb_getf (q := 91) (j := 0) (i := 0) dX9_completeTick_88 rfl fl_X9_7 hB rfl rfl rfl rfl ?_
      refine g_iconst (q := 92) (v := (nI 0)) dX9_completeTick_91 rfl (by decide) ?_
      refine gb_ialdN (q := 93) (j := 0) (i := 1) dX9_completeTick_92 rfl hB rfl rfl rfl (by omega) (by decide) ?_
      refine g_eqi (v := nI (σ.1 + n)) (hN.1.trans (by rw [s_run1])) ?_
      refine g_goto (q := 97) dX9_completeTick_93 (by decide) ?_
      refine g_istore (q := 99) dX9_completeTick_97 rfl (by decide) rfl ?_
      refine g_aload_n (q := 100) dX9_completeTick_99 rfl rfl ?_
      refine gb_getf (q := 103) (j := 0) (i := 0) dX9_completeTick_100 rfl fl_X9_48 hB rfl rfl rfl rfl ?_
      refine g_iconst (q := 104) (v := (nI 0)) dX9_completeTick_103 rfl (by decide) ?_
      refine g_aload_n (q := 105) dX9_completeTick_104 rfl rfl ?_
      refine gb_getf (q := 108) (j := 0) (i := 0) dX9_completeTick_105 rfl fl_X9_7 hB rfl rfl rfl rfl ?_
      refine g_iconst (q := 109) (v := (nI 0)) dX9_completeTick_108 rfl (by decide) ?_
      refine g_sipush (q := 112) (v := (nI 2075)) dX9_completeTick_109 rfl (by decide) ?_
      refine g_callS (q := 115) dX9_completeTick_112 rfl ks_X9_305 rfl (c_copies0 (p := o + 12) (q := o + 1) (n1 := 2075) (n2 := 2075) (f := (va_cpy (A 1) (A 12) 0 0 2075)) (h := N) (a := 0) (b := 0) (n := 2075) ((hB.1.at (j := 0) rfl).sub 12 rfl) ((hB.1.at (j := 0) rfl).sub 1 rfl) (by omega) (by omega) (by omega) (by decide) (by decide)) (by decide) rfl (bz_le rfl) (by decide) (by decide) (fun r g1 hQ => ?_)
      obtain ⟨rfl, h1⟩ := hQ
      have hB := hB.sp (j := 0) rfl 1 rfl h1 (bz_le rfl)
      refine g_iload (q := 117) dX9_completeTick_115 rfl rfl ?_
      exact g_iret dX9_completeTick_117 rfl (⟨by first | rw [if_pos (by omega)] | rw [if_neg (by omega)], _, (va_cpy (A 1) (A 12) 0 0 2075), F, v, mv, hB, hback N⟩)
  have K : ∀ (m n : Nat) (N F v : Nat → Int32) (mv : Int32) (g1 : Nat → va_E), n + m = 500 → s_cn (s_st pl σ s k) m n = cn → m_st N (s_run pl n σ) → bz_B L g g1 [(o, (b_Mod E o (va_up (va_up I 0 (nI 0)) 24 mv) (va_up (va_up (va_up (va_up A 12 (va_cpy (A 1) (A 12) 0 0 2075)) 11 F) 10 v) 1 N)))] → bz_G l E mX9_completeTick (bz_R 6 0 0) L sz (bz_Fm E L sz (fun r g1 => r = some (.int (if s_st pl σ s k cn = 2 then nI (σ.1 + cn) else -1)) ∧ ∃ (N W F v : Nat → Int32) (mv : Int32), bz_B L g g1 [(o, b_Mod E o (va_up (va_up I 0 (nI 0)) 24 mv) (va_up (va_up (va_up (va_up A 12 W) 11 F) 10 v) 1 N))] ∧ m_st N σ)) sz 0 0 L g1 49 [(4, .int (nI n)), (3, .int (nI (43 + 7 * (8 * s + k) + 0))), (0, .ref o), (1, .int (nI s)), (2, .int (nI k))] [] := by
    intro m
    induction m with
    | zero =>
      intro n N F v mv g2 hn hc hN hB
      refine g_iload (q := 51) dX9_completeTick_49 rfl rfl ?_
      refine g_sipush (q := 54) (v := (nI 500)) dX9_completeTick_51 rfl (by decide) ?_
      refine g_icmpN_ge (q := 57) (t := 77) dX9_completeTick_54 rfl (by decide) (by omega) (by omega) (fun _ => ?_) (fun c => absurd c (by omega))
      refine g_lvs (lv1 := [(4, .int (nI n)), (3, .int (nI (43 + 7 * (8 * s + k) + 0))), (0, .ref o), (1, .int (nI s)), (2, .int (nI k))]) ⟨rfl, rfl, rfl, rfl, rfl, trivial⟩ ?_
      exact X n N F v mv _ hc hN hB
    | succ m ih =>
      intro n N F v mv g2 hn hc hN hB
      have hle1 := hle n
      rw [s_cn] at hc
      by_cases c : s_st pl σ s k n = 1
      · rw [if_pos c] at hc
        refine g_iload (q := 51) dX9_completeTick_49 rfl rfl ?_
        refine g_sipush (q := 54) (v := (nI 500)) dX9_completeTick_51 rfl (by decide) ?_
        refine g_icmpN_ge (q := 57) (t := 77) dX9_completeTick_54 rfl (by decide) (by omega) (by omega) (fun c => absurd c (by omega)) (fun _ => ?_)
        refine g_aload_n (q := 58) dX9_completeTick_57 rfl rfl ?_
        refine gb_getf (q := 61) (j := 0) (i := 0) dX9_completeTick_58 rfl fl_X9_7 hB rfl rfl rfl rfl ?_
        refine g_iload_n (q := 62) dX9_completeTick_61 rfl rfl ?_
        refine gb_ialdN (q := 63) (j := 0) (i := 1) dX9_completeTick_62 rfl hB rfl rfl rfl (by omega) (by decide) ?_
        refine g_eqi (v := nI (s_st pl σ s k n)) (m_st_tg hN hs (by omega)) ?_
        refine g_iconst (q := 64) (v := (nI 1)) dX9_completeTick_63 rfl (by decide) ?_
        refine g_icmpN_ne (q := 67) (t := 77) dX9_completeTick_64 rfl (by decide) (by omega) (by omega) (fun c => absurd c (by omega)) (fun _ => ?_)
        refine g_aload_n (q := 68) dX9_completeTick_67 rfl rfl ?_
        refine gb_callV (q := 71) (j := 0) (i := 0) dX9_completeTick_68 rfl kv_X9_309 (c_mticks (I := va_up (va_up I 0 (nI 0)) 24 mv) (A := (va_up (va_up (va_up (va_up A 12 (va_cpy (A 1) (A 12) 0 0 2075)) 11 F) 10 v) 1 N)) (pl := pl) (σ := s_run pl n σ) hpl hN ((hin.run hsp n).tok hsp) (by rw [s_run1]; omega) (hB.1.at (j := 0) rfl)) rfl (by decide) hB rfl rfl rfl rfl (bz_le rfl) (by decide) (by decide) (fun r g1 hQ => ?_)
        obtain ⟨rfl, N1, F1, v1, h1, hN1⟩ := hQ
        have hB := hB.sp (j := 0) rfl 0 rfl h1 (bz_le rfl)
        refine g_iincN (q := 74) (c := 1) dX9_completeTick_71 rfl (by decide) rfl rfl (by decide) ?_
        refine g_goto (q := 49) dX9_completeTick_74 (by decide) ?_
        refine g_lvs (lv1 := [(4, .int (nI (n + 1))), (3, .int (nI (43 + 7 * (8 * s + k) + 0))), (0, .ref o), (1, .int (nI s)), (2, .int (nI k))]) ⟨rfl, rfl, rfl, rfl, rfl, trivial⟩ ?_
        exact ih (n + 1) N1 F1 v1 _ _ (by omega) hc (by rw [s_run_s]; exact hN1) hB
      · rw [if_neg c] at hc
        refine g_iload (q := 51) dX9_completeTick_49 rfl rfl ?_
        refine g_sipush (q := 54) (v := (nI 500)) dX9_completeTick_51 rfl (by decide) ?_
        refine g_icmpN_ge (q := 57) (t := 77) dX9_completeTick_54 rfl (by decide) (by omega) (by omega) (fun c => absurd c (by omega)) (fun _ => ?_)
        refine g_aload_n (q := 58) dX9_completeTick_57 rfl rfl ?_
        refine gb_getf (q := 61) (j := 0) (i := 0) dX9_completeTick_58 rfl fl_X9_7 hB rfl rfl rfl rfl ?_
        refine g_iload_n (q := 62) dX9_completeTick_61 rfl rfl ?_
        refine gb_ialdN (q := 63) (j := 0) (i := 1) dX9_completeTick_62 rfl hB rfl rfl rfl (by omega) (by decide) ?_
        refine g_eqi (v := nI (s_st pl σ s k n)) (m_st_tg hN hs (by omega)) ?_
        refine g_iconst (q := 64) (v := (nI 1)) dX9_completeTick_63 rfl (by decide) ?_
        refine g_icmpN_ne (q := 67) (t := 77) dX9_completeTick_64 rfl (by decide) (by omega) (by omega) (fun _ => ?_) (fun c => absurd c (by omega))
        refine g_lvs (lv1 := [(4, .int (nI n)), (3, .int (nI (43 + 7 * (8 * s + k) + 0))), (0, .ref o), (1, .int (nI s)), (2, .int (nI k))]) ⟨rfl, rfl, rfl, rfl, rfl, trivial⟩ ?_
        exact X n N F v mv _ hc hN hB
  by_cases c0 : s_st pl σ s k 0 = 0
  · have hcn0 : cn = 0 := by rw [← hcn, s_cn, if_neg (by omega)]
    refine g_aload_n (q := 1) dX9_completeTick_0 rfl rfl ?_
    refine g_iload_n (q := 2) dX9_completeTick_1 rfl rfl ?_
    refine g_iload_n (q := 3) dX9_completeTick_2 rfl rfl ?_
    refine gb_callV (q := 6) (j := 0) (i := 0) dX9_completeTick_3 rfl kv_X9_249 (c_mnoTag0 hs hr hk hm (hB.1.at (j := 0) rfl)) rfl (by decide) hB rfl rfl rfl rfl (bz_le rfl) (by decide) (by decide) (fun r g1 hQ => ?_)
    obtain ⟨rfl, h1⟩ := hQ
    have hB := hB.sp (j := 0) rfl 0 rfl h1 (bz_le rfl)
    refine g_ifN_eq (q := 9) (t := 11) dX9_completeTick_6 rfl (by decide) (by omega) (fun _ => ?_) (fun c => absurd c (by omega))
    refine g_iload_n (q := 12) dX9_completeTick_11 rfl rfl ?_
    refine g_iload_n (q := 13) dX9_completeTick_12 rfl rfl ?_
    refine g_callS (q := 16) dX9_completeTick_13 rfl ks_X9_252 rfl (c_tagged (s := s) (k := k)) (by decide) rfl (bz_le rfl) (by decide) (by decide) (fun r g1 hQ => ?_)
    obtain ⟨rfl, hg⟩ := hQ
    have hg := hg.symm
    subst hg
    refine g_iconst (q := 17) (v := (nI 0)) dX9_completeTick_16 rfl (by decide) ?_
    refine g_iaddN (q := 18) dX9_completeTick_17 rfl ?_
    refine g_istore_n (q := 19) rfl dX9_completeTick_18 rfl (by decide) rfl ?_
    refine g_aload_n (q := 20) dX9_completeTick_19 rfl rfl ?_
    refine gb_getf (q := 23) (j := 0) (i := 0) dX9_completeTick_20 rfl fl_X9_7 hB rfl rfl rfl rfl ?_
    refine g_iload_n (q := 24) dX9_completeTick_23 rfl rfl ?_
    refine gb_ialdN (q := 25) (j := 0) (i := 1) dX9_completeTick_24 rfl hB rfl rfl rfl (by omega) (by decide) ?_
    refine g_eqi (v := nI (s_st pl σ s k 0)) (m_st_tg hst hs (by omega)) ?_
    refine g_ifN_ne (q := 28) (t := 30) dX9_completeTick_25 rfl (by decide) (by omega) (fun c => absurd c (by omega)) (fun _ => ?_)
    refine g_iconst (q := 29) (v := (-1)) dX9_completeTick_28 rfl (by decide) ?_
    exact g_iret dX9_completeTick_29 rfl (⟨by rw [hcn0, if_neg (by omega)], A 1, A 12, A 11, A 10, I 24, hB, hst⟩)
  ·
    refine g_aload_n (q := 1) dX9_completeTick_0 rfl rfl ?_
    refine g_iload_n (q := 2) dX9_completeTick_1 rfl rfl ?_
    refine g_iload_n (q := 3) dX9_completeTick_2 rfl rfl ?_
    refine gb_callV (q := 6) (j := 0) (i := 0) dX9_completeTick_3 rfl kv_X9_249 (c_mnoTag0 hs hr hk hm (hB.1.at (j := 0) rfl)) rfl (by decide) hB rfl rfl rfl rfl (bz_le rfl) (by decide) (by decide) (fun r g1 hQ => ?_)
    obtain ⟨rfl, h1⟩ := hQ
    have hB := hB.sp (j := 0) rfl 0 rfl h1 (bz_le rfl)
    refine g_ifN_eq (q := 9) (t := 11) dX9_completeTick_6 rfl (by decide) (by omega) (fun _ => ?_) (fun c => absurd c (by omega))
    refine g_iload_n (q := 12) dX9_completeTick_11 rfl rfl ?_
    refine g_iload_n (q := 13) dX9_completeTick_12 rfl rfl ?_
    refine g_callS (q := 16) dX9_completeTick_13 rfl ks_X9_252 rfl (c_tagged (s := s) (k := k)) (by decide) rfl (bz_le rfl) (by decide) (by decide) (fun r g1 hQ => ?_)
    obtain ⟨rfl, hg⟩ := hQ
    have hg := hg.symm
    subst hg
    refine g_iconst (q := 17) (v := (nI 0)) dX9_completeTick_16 rfl (by decide) ?_
    refine g_iaddN (q := 18) dX9_completeTick_17 rfl ?_
    refine g_istore_n (q := 19) rfl dX9_completeTick_18 rfl (by decide) rfl ?_
    refine g_aload_n (q := 20) dX9_completeTick_19 rfl rfl ?_
    refine gb_getf (q := 23) (j := 0) (i := 0) dX9_completeTick_20 rfl fl_X9_7 hB rfl rfl rfl rfl ?_
    refine g_iload_n (q := 24) dX9_completeTick_23 rfl rfl ?_
    refine gb_ialdN (q := 25) (j := 0) (i := 1) dX9_completeTick_24 rfl hB rfl rfl rfl (by omega) (by decide) ?_
    refine g_eqi (v := nI (s_st pl σ s k 0)) (m_st_tg hst hs (by omega)) ?_
    refine g_ifN_ne (q := 28) (t := 30) dX9_completeTick_25 rfl (by decide) (by omega) (fun _ => ?_) (fun c => absurd c (by omega))
    refine g_aload_n (q := 31) dX9_completeTick_30 rfl rfl ?_
    refine gb_getf (q := 34) (j := 0) (i := 0) dX9_completeTick_31 rfl fl_X9_7 hB rfl rfl rfl rfl ?_
    refine g_iconst (q := 35) (v := (nI 0)) dX9_completeTick_34 rfl (by decide) ?_
    refine g_aload_n (q := 36) dX9_completeTick_35 rfl rfl ?_
    refine gb_getf (q := 39) (j := 0) (i := 0) dX9_completeTick_36 rfl fl_X9_48 hB rfl rfl rfl rfl ?_
    refine g_iconst (q := 40) (v := (nI 0)) dX9_completeTick_39 rfl (by decide) ?_
    refine g_sipush (q := 43) (v := (nI 2075)) dX9_completeTick_40 rfl (by decide) ?_
    refine g_callS (q := 46) dX9_completeTick_43 rfl ks_X9_305 rfl (c_copies0 (p := o + 1) (q := o + 12) (n1 := 2075) (n2 := 2075) (f := A 1) (h := A 12) (a := 0) (b := 0) (n := 2075) ((hB.1.at (j := 0) rfl).sub 1 rfl) ((hB.1.at (j := 0) rfl).sub 12 rfl) (by omega) (by omega) (by omega) (by decide) (by decide)) (by decide) rfl (bz_le rfl) (by decide) (by decide) (fun r g1 hQ => ?_)
    obtain ⟨rfl, h1⟩ := hQ
    have hB := hB.sp (j := 0) rfl 12 rfl h1 (bz_le rfl)
    refine g_iconst (q := 47) (v := (nI 0)) dX9_completeTick_46 rfl (by decide) ?_
    refine g_istore (q := 49) dX9_completeTick_47 rfl (by decide) rfl ?_
    refine g_lvs (lv1 := [(4, .int (nI 0)), (3, .int (nI (43 + 7 * (8 * s + k) + 0))), (0, .ref o), (1, .int (nI s)), (2, .int (nI k))]) ⟨rfl, rfl, rfl, rfl, rfl, trivial⟩ ?_
    exact K 500 0 (A 1) (A 11) (A 10) (I 24) _ (by omega) hcn hst hB
theorem m_wi {k lo hi : Nat} (h1 : lo ≤ k) (h2 : k ≤ hi) (h3 : hi < 2 ^ 31) : (if nI k < nI lo then (0 : Int32) else if nI hi < nI k then 0 else 1) = nI 1 := by
  rw [if_neg (by rw [Int32.lt_iff_toInt_lt, nI_toInt (by omega), nI_toInt (by omega)]; omega), if_neg (by rw [Int32.lt_iff_toInt_lt, nI_toInt (by omega), nI_toInt (by omega)]; omega)]; rfl
def s_fw (σ : Si) : Nat := σ.2.1.2.2.2.2.1 + σ.2.2.2.2.2.2.1

set_option maxRecDepth 20000 in
set_option maxHeartbeats 1000000 in
theorem c_mrun2 {l : Launch} {E : bz_E} {L : List Nat} {g : Nat → va_E} {o : Nat} {I : Nat → Int32} {A : Nat → Nat → Int32} {v : Int32} (hb : (if v < nI 1 then (0 : Int32) else if nI 300 < v then 0 else 1) = nI 0) (hH : bz_H L g o (b_Mod E o I A)) : bz_K l E mX9_run 6 [.ref o, .int v] L g (fun r g1 => r = some (.int (nI 0)) ∧ bz_B L g g1 [(o, b_Mod E o (va_up I 0 (nI 1)) A)]) := by
  refine bz_K.of (by decide) (bz_le rfl) (fun sz => ?_)
  have hB := bz_B.rf (bz_W.one hH)
  show bz_G _ _ _ _ _ _ _ _ _ _ _ _ 0 [(0, .ref o), (1, .int v)] []
  refine g_aload_n (q := 1) dX9_run_0 rfl rfl ?_
  refine g_iconst (q := 2) (v := (nI 0)) dX9_run_1 rfl (by decide) ?_
  refine gb_putf (q := 5) (j := 0) (i := 0) dX9_run_2 rfl fp_X9_70 hB rfl rfl rfl (bz_le rfl) rfl rfl (fun g hB => ?_)
  refine g_aload_n (q := 6) dX9_run_5 rfl rfl ?_
  refine g_iload_n (q := 7) dX9_run_6 rfl rfl ?_
  refine g_iconst (q := 8) (v := (nI 1)) dX9_run_7 rfl (by decide) ?_
  refine g_sipush (q := 11) (v := (nI 300)) dX9_run_8 rfl (by decide) ?_
  refine g_callS (q := 14) dX9_run_11 rfl ks_X9_114 rfl (c_mwithin) (by decide) rfl (bz_le rfl) (by decide) (by decide) (fun r g1 hQ => ?_)
  obtain ⟨rfl, hg⟩ := hQ
  have hg := hg.symm
  subst hg
  refine g_eqi (v := nI (0)) (hb) ?_
  refine g_ifN_ne (q := 17) (t := 21) dX9_run_14 rfl (by decide) (by omega) (fun c => absurd c (by omega)) (fun _ => ?_)
  refine g_iconst (q := 18) (v := (nI 1)) dX9_run_17 rfl (by decide) ?_
  refine g_goto (q := 22) dX9_run_18 (by decide) ?_
  refine g_iconst (q := 23) (v := (nI 1)) dX9_run_22 rfl (by decide) ?_
  refine gb_callV (q := 26) (j := 0) (i := 0) dX9_run_23 rfl kv_X9_210 (c_mthrowsIf1 (I := va_up I 0 (nI 0)) (A := A) (k := 1) rfl (by decide) (hB.1.at (j := 0) rfl)) rfl (by decide) hB rfl rfl rfl rfl (bz_le rfl) (by decide) (by decide) (fun r g1 hQ => ?_)
  obtain ⟨rfl, h1⟩ := hQ
  have hB := hB.sp (j := 0) rfl 0 rfl h1 (bz_le rfl)
  refine g_ifN_ne (q := 29) (t := 56) dX9_run_26 rfl (by decide) (by omega) (fun _ => ?_) (fun c => absurd c (by omega))
  refine g_iconst (q := 57) (v := (nI 0)) dX9_run_56 rfl (by decide) ?_
  exact g_iret dX9_run_57 rfl (⟨rfl, hB⟩)
set_option maxRecDepth 20000 in
set_option maxHeartbeats 1000000 in
theorem c_mrun1 {l : Launch} {E : bz_E} {L : List Nat} {g : Nat → va_E} {o : Nat} {I : Nat → Int32} {A : Nat → Nat → Int32} {t now : Nat} (ht : 1 ≤ t ∧ t ≤ 300) (hnow0 : A 1 0 = nI now) (hnow : now < 20000) (hb : 9999 < now + t) (hH : bz_H L g o (b_Mod E o I A)) : bz_K l E mX9_run 6 [.ref o, .int (nI t)] L g (fun r g1 => r = some (.int (nI 0)) ∧ bz_B L g g1 [(o, b_Mod E o (va_up I 0 (nI 2)) A)]) := by
  refine bz_K.of (by decide) (bz_le rfl) (fun sz => ?_)
  have hB := bz_B.rf (bz_W.one hH)
  show bz_G _ _ _ _ _ _ _ _ _ _ _ _ 0 [(0, .ref o), (1, .int (nI t))] []
  refine g_aload_n (q := 1) dX9_run_0 rfl rfl ?_
  refine g_iconst (q := 2) (v := (nI 0)) dX9_run_1 rfl (by decide) ?_
  refine gb_putf (q := 5) (j := 0) (i := 0) dX9_run_2 rfl fp_X9_70 hB rfl rfl rfl (bz_le rfl) rfl rfl (fun g hB => ?_)
  refine g_aload_n (q := 6) dX9_run_5 rfl rfl ?_
  refine g_iload_n (q := 7) dX9_run_6 rfl rfl ?_
  refine g_iconst (q := 8) (v := (nI 1)) dX9_run_7 rfl (by decide) ?_
  refine g_sipush (q := 11) (v := (nI 300)) dX9_run_8 rfl (by decide) ?_
  refine g_callS (q := 14) dX9_run_11 rfl ks_X9_114 rfl (c_mwithin) (by decide) rfl (bz_le rfl) (by decide) (by decide) (fun r g1 hQ => ?_)
  obtain ⟨rfl, hg⟩ := hQ
  have hg := hg.symm
  subst hg
  refine g_eqi (v := nI (1)) (m_wi ht.1 ht.2 (by decide)) ?_
  refine g_ifN_ne (q := 17) (t := 21) dX9_run_14 rfl (by decide) (by omega) (fun _ => ?_) (fun c => absurd c (by omega))
  refine g_iconst (q := 22) (v := (nI 0)) dX9_run_21 rfl (by decide) ?_
  refine g_iconst (q := 23) (v := (nI 1)) dX9_run_22 rfl (by decide) ?_
  refine gb_callV (q := 26) (j := 0) (i := 0) dX9_run_23 rfl kv_X9_210 (c_mthrowsIf0 (I := va_up I 0 (nI 0)) (A := A) (k := 1) rfl (hB.1.at (j := 0) rfl)) rfl (by decide) hB rfl rfl rfl rfl (bz_le rfl) (by decide) (by decide) (fun r g1 hQ => ?_)
  obtain ⟨rfl, hg⟩ := hQ
  have hg := hg.symm
  subst hg
  refine g_ifN_ne (q := 29) (t := 56) dX9_run_26 rfl (by decide) (by omega) (fun c => absurd c (by omega)) (fun _ => ?_)
  refine g_aload_n (q := 30) dX9_run_29 rfl rfl ?_
  refine g_aload_n (q := 31) dX9_run_30 rfl rfl ?_
  refine gb_getf (q := 34) (j := 0) (i := 0) dX9_run_31 rfl fl_X9_7 hB rfl rfl rfl rfl ?_
  refine g_iconst (q := 35) (v := (nI 0)) dX9_run_34 rfl (by decide) ?_
  refine gb_ialdN (q := 36) (j := 0) (i := 1) dX9_run_35 rfl hB rfl rfl rfl (by omega) (by decide) ?_
  refine g_eqi (v := nI (now)) (hnow0) ?_
  refine g_iload_n (q := 37) dX9_run_36 rfl rfl ?_
  refine g_iaddN (q := 38) dX9_run_37 rfl ?_
  refine g_sipush (q := 41) (v := (nI 9999)) dX9_run_38 rfl (by decide) ?_
  refine g_icmpN_le (q := 44) (t := 48) dX9_run_41 rfl (by decide) (by omega) (by omega) (fun c => absurd c (by omega)) (fun _ => ?_)
  refine g_iconst (q := 45) (v := (nI 1)) dX9_run_44 rfl (by decide) ?_
  refine g_goto (q := 49) dX9_run_45 (by decide) ?_
  refine g_iconst (q := 50) (v := (nI 2)) dX9_run_49 rfl (by decide) ?_
  refine gb_callV (q := 53) (j := 0) (i := 0) dX9_run_50 rfl kv_X9_210 (c_mthrowsIf1 (I := va_up I 0 (nI 0)) (A := A) (k := 2) rfl (by decide) (hB.1.at (j := 0) rfl)) rfl (by decide) hB rfl rfl rfl rfl (bz_le rfl) (by decide) (by decide) (fun r g1 hQ => ?_)
  obtain ⟨rfl, h1⟩ := hQ
  have hB := hB.sp (j := 0) rfl 0 rfl h1 (bz_le rfl)
  refine g_ifN_eq (q := 56) (t := 58) dX9_run_53 rfl (by decide) (by omega) (fun c => absurd c (by omega)) (fun _ => ?_)
  refine g_iconst (q := 57) (v := (nI 0)) dX9_run_56 rfl (by decide) ?_
  exact g_iret dX9_run_57 rfl (⟨rfl, hB⟩)
set_option maxRecDepth 20000 in
set_option maxHeartbeats 1000000 in
theorem c_mrun0 {l : Launch} {E : bz_E} {L : List Nat} {g : Nat → va_E} {o : Nat} {I : Nat → Int32} {A : Nat → Nat → Int32} {t : Nat} {hs : List Si} {pl : Pl} {σ : Si} (ht : 1 ≤ t ∧ t ≤ 300) (hnow : σ.1 + t ≤ 9999) (hun : m_un (A 13) hs) (hl : I 27 = nI hs.length) (h10 : hs.length ≤ 10) (hpl : m_pl A pl) (hst : m_st (A 1) σ) (hin : s_inv pl σ) (hH : bz_H L g o (b_Mod E o I A)) : bz_K l E mX9_run 6 [.ref o, .int (nI t)] L g (fun r g1 => r = some (.int (nI (s_fw (s_run pl t σ)) - nI (s_fw σ))) ∧ ∃ (N U F v : Nat → Int32) (mv : Int32), bz_B L g g1 [(o, b_Mod E o (va_up (va_up (va_up I 0 (nI 0)) 27 (nI (s_kp hs σ).length)) 24 mv) (va_up (va_up (va_up (va_up A 13 U) 11 F) 10 v) 1 N))] ∧ m_st N (s_run pl t σ) ∧ m_un U (s_kp hs σ)) := by
  refine bz_K.of (by decide) (bz_le rfl) (fun sz => ?_)
  show bz_G _ _ _ _ _ _ _ _ _ _ _ _ 0 [(0, .ref o), (1, .int (nI t))] []
  have hB := bz_B.rf (bz_W.one hH)
  have hsp := hpl.2.2.2.2.1.1
  have K : ∀ (U : Nat → Int32), m_un U (s_kp hs σ) → ∀ (m n : Nat) (N F v : Nat → Int32) (mv : Int32) (g1 : Nat → va_E), n + m = t → m_st N (s_run pl n σ) → bz_B L g g1 [(o, b_Mod E o (va_up (va_up (va_up I 0 (nI 0)) 27 (nI (s_kp hs σ).length)) 24 mv) (va_up (va_up (va_up (va_up A 13 U) 11 F) 10 v) 1 N))] → bz_G l E mX9_run (bz_R 6 0 0) L sz (bz_Fm E L sz (fun r g1 => r = some (.int (nI (s_fw (s_run pl t σ)) - nI (s_fw σ))) ∧ ∃ (N U F v : Nat → Int32) (mv : Int32), bz_B L g g1 [(o, b_Mod E o (va_up (va_up (va_up I 0 (nI 0)) 27 (nI (s_kp hs σ).length)) 24 mv) (va_up (va_up (va_up (va_up A 13 U) 11 F) 10 v) 1 N))] ∧ m_st N (s_run pl t σ) ∧ m_un U (s_kp hs σ))) sz 0 0 L g1 79 [(3, .int (nI n)), (2, .int (nI (s_fw σ))), (0, .ref o), (1, .int (nI t))] [] := by
    intro U hU m
    induction m with
    | zero =>
      intro n N F v mv g2 hn hN hB
      have hn2 : n = t := by omega
      subst hn2
      refine g_iload_n (q := 80) dX9_run_79 rfl rfl ?_
      refine g_iload_n (q := 81) dX9_run_80 rfl rfl ?_
      refine g_icmpN_ge (q := 84) (t := 94) dX9_run_81 rfl (by decide) (by omega) (by omega) (fun _ => ?_) (fun c => absurd c (by omega))
      refine g_aload_n (q := 95) dX9_run_94 rfl rfl ?_
      refine gb_getf (q := 98) (j := 0) (i := 0) dX9_run_95 rfl fl_X9_7 hB rfl rfl rfl rfl ?_
      refine g_iconst (q := 99) (v := (nI 5)) dX9_run_98 rfl (by decide) ?_
      refine gb_ialdN (q := 100) (j := 0) (i := 1) dX9_run_99 rfl hB rfl rfl rfl (by omega) (by decide) ?_
      refine g_eqi (v := nI ((s_run pl n σ).2.1.2.2.2.2.1)) (hN.2.1.2.2.1) ?_
      refine g_aload_n (q := 101) dX9_run_100 rfl rfl ?_
      refine gb_getf (q := 104) (j := 0) (i := 0) dX9_run_101 rfl fl_X9_7 hB rfl rfl rfl rfl ?_
      refine g_bipush (q := 106) (v := (nI 6)) dX9_run_104 rfl (by decide) ?_
      refine gb_ialdN (q := 107) (j := 0) (i := 1) dX9_run_106 rfl hB rfl rfl rfl (by omega) (by decide) ?_
      refine g_eqi (v := nI ((s_run pl n σ).2.2.2.2.2.2.1)) (hN.2.2.2.2.1) ?_
      refine g_iaddN (q := 108) dX9_run_107 rfl ?_
      refine g_iload_n (q := 109) dX9_run_108 rfl rfl ?_
      refine g_isub (q := 110) dX9_run_109 rfl ?_
      exact g_iret dX9_run_110 rfl (⟨rfl, N, U, F, v, mv, hB, hN, hU⟩)
    | succ m ih =>
      intro n N F v mv g2 hn hN hB
      refine g_iload_n (q := 80) dX9_run_79 rfl rfl ?_
      refine g_iload_n (q := 81) dX9_run_80 rfl rfl ?_
      refine g_icmpN_ge (q := 84) (t := 94) dX9_run_81 rfl (by decide) (by omega) (by omega) (fun c => absurd c (by omega)) (fun _ => ?_)
      refine g_aload_n (q := 85) dX9_run_84 rfl rfl ?_
      refine gb_callV (q := 88) (j := 0) (i := 0) dX9_run_85 rfl kv_X9_309 (c_mticks (I := va_up (va_up (va_up I 0 (nI 0)) 27 (nI (s_kp hs σ).length)) 24 mv) (A := (va_up (va_up (va_up (va_up A 13 U) 11 F) 10 v) 1 N)) (pl := pl) (σ := s_run pl n σ) hpl hN ((hin.run hsp n).tok hsp) (by rw [s_run1]; omega) (hB.1.at (j := 0) rfl)) rfl (by decide) hB rfl rfl rfl rfl (bz_le rfl) (by decide) (by decide) (fun r g1 hQ => ?_)
      obtain ⟨rfl, N1, F1, v1, h1, hN1⟩ := hQ
      have hB := hB.sp (j := 0) rfl 0 rfl h1 (bz_le rfl)
      refine g_iincN (q := 91) (c := 1) dX9_run_88 rfl (by decide) rfl rfl (by decide) ?_
      refine g_goto (q := 79) dX9_run_91 (by decide) ?_
      refine g_lvs (lv1 := [(3, .int (nI (n + 1))), (2, .int (nI (s_fw σ))), (0, .ref o), (1, .int (nI t))]) ⟨rfl, rfl, rfl, rfl, trivial⟩ ?_
      exact ih (n + 1) N1 F1 v1 _ _ (by omega) (by rw [s_run_s]; exact hN1) hB
  refine g_aload_n (q := 1) dX9_run_0 rfl rfl ?_
  refine g_iconst (q := 2) (v := (nI 0)) dX9_run_1 rfl (by decide) ?_
  refine gb_putf (q := 5) (j := 0) (i := 0) dX9_run_2 rfl fp_X9_70 hB rfl rfl rfl (bz_le rfl) rfl rfl (fun g hB => ?_)
  refine g_aload_n (q := 6) dX9_run_5 rfl rfl ?_
  refine g_iload_n (q := 7) dX9_run_6 rfl rfl ?_
  refine g_iconst (q := 8) (v := (nI 1)) dX9_run_7 rfl (by decide) ?_
  refine g_sipush (q := 11) (v := (nI 300)) dX9_run_8 rfl (by decide) ?_
  refine g_callS (q := 14) dX9_run_11 rfl ks_X9_114 rfl (c_mwithin) (by decide) rfl (bz_le rfl) (by decide) (by decide) (fun r g1 hQ => ?_)
  obtain ⟨rfl, hg⟩ := hQ
  have hg := hg.symm
  subst hg
  refine g_eqi (v := nI (1)) (m_wi ht.1 ht.2 (by decide)) ?_
  refine g_ifN_ne (q := 17) (t := 21) dX9_run_14 rfl (by decide) (by omega) (fun _ => ?_) (fun c => absurd c (by omega))
  refine g_iconst (q := 22) (v := (nI 0)) dX9_run_21 rfl (by decide) ?_
  refine g_iconst (q := 23) (v := (nI 1)) dX9_run_22 rfl (by decide) ?_
  refine gb_callV (q := 26) (j := 0) (i := 0) dX9_run_23 rfl kv_X9_210 (c_mthrowsIf0 (I := va_up I 0 (nI 0)) (A := A) (k := 1) rfl (hB.1.at (j := 0) rfl)) rfl (by decide) hB rfl rfl rfl rfl (bz_le rfl) (by decide) (by decide) (fun r g1 hQ => ?_)
  obtain ⟨rfl, hg⟩ := hQ
  have hg := hg.symm
  subst hg
  refine g_ifN_ne (q := 29) (t := 56) dX9_run_26 rfl (by decide) (by omega) (fun c => absurd c (by omega)) (fun _ => ?_)
  refine g_aload_n (q := 30) dX9_run_29 rfl rfl ?_
  refine g_aload_n (q := 31) dX9_run_30 rfl rfl ?_
  refine gb_getf (q := 34) (j := 0) (i := 0) dX9_run_31 rfl fl_X9_7 hB rfl rfl rfl rfl ?_
  refine g_iconst (q := 35) (v := (nI 0)) dX9_run_34 rfl (by decide) ?_
  refine gb_ialdN (q := 36) (j := 0) (i := 1) dX9_run_35 rfl hB rfl rfl rfl (by omega) (by decide) ?_
  refine g_eqi (v := nI (σ.1)) (hst.1) ?_
  refine g_iload_n (q := 37) dX9_run_36 rfl rfl ?_
  refine g_iaddN (q := 38) dX9_run_37 rfl ?_
  refine g_sipush (q := 41) (v := (nI 9999)) dX9_run_38 rfl (by decide) ?_
  refine g_icmpN_le (q := 44) (t := 48) dX9_run_41 rfl (by decide) (by omega) (by omega) (fun _ => ?_) (fun c => absurd c (by omega))
  refine g_iconst (q := 49) (v := (nI 0)) dX9_run_48 rfl (by decide) ?_
  refine g_iconst (q := 50) (v := (nI 2)) dX9_run_49 rfl (by decide) ?_
  refine gb_callV (q := 53) (j := 0) (i := 0) dX9_run_50 rfl kv_X9_210 (c_mthrowsIf0 (I := va_up I 0 (nI 0)) (A := A) (k := 2) rfl (hB.1.at (j := 0) rfl)) rfl (by decide) hB rfl rfl rfl rfl (bz_le rfl) (by decide) (by decide) (fun r g1 hQ => ?_)
  obtain ⟨rfl, hg⟩ := hQ
  have hg := hg.symm
  subst hg
  refine g_ifN_eq (q := 56) (t := 58) dX9_run_53 rfl (by decide) (by omega) (fun _ => ?_) (fun c => absurd c (by omega))
  refine g_aload_n (q := 59) dX9_run_58 rfl rfl ?_
  refine gb_callV (q := 62) (j := 0) (i := 0) dX9_run_59 rfl kv_X9_318 (c_mkeeps (I := va_up I 0 (nI 0)) (A := A) (hs := hs) (σ := σ) hun hl h10 hst (hB.1.at (j := 0) rfl)) rfl (by decide) hB rfl rfl rfl rfl (bz_le rfl) (by decide) (by decide) (fun r g1 hQ => ?_)
  obtain ⟨rfl, U, h1, hU⟩ := hQ
  have hB := hB.sp (j := 0) rfl 0 rfl h1 (bz_le rfl)
  refine g_aload_n (q := 63) dX9_run_62 rfl rfl ?_
  refine gb_getf (q := 66) (j := 0) (i := 0) dX9_run_63 rfl fl_X9_7 hB rfl rfl rfl rfl ?_
  refine g_iconst (q := 67) (v := (nI 5)) dX9_run_66 rfl (by decide) ?_
  refine gb_ialdN (q := 68) (j := 0) (i := 1) dX9_run_67 rfl hB rfl rfl rfl (by omega) (by decide) ?_
  refine g_eqi (v := nI (σ.2.1.2.2.2.2.1)) (hst.2.1.2.2.1) ?_
  refine g_aload_n (q := 69) dX9_run_68 rfl rfl ?_
  refine gb_getf (q := 72) (j := 0) (i := 0) dX9_run_69 rfl fl_X9_7 hB rfl rfl rfl rfl ?_
  refine g_bipush (q := 74) (v := (nI 6)) dX9_run_72 rfl (by decide) ?_
  refine gb_ialdN (q := 75) (j := 0) (i := 1) dX9_run_74 rfl hB rfl rfl rfl (by omega) (by decide) ?_
  refine g_eqi (v := nI (σ.2.2.2.2.2.2.1)) (hst.2.2.2.2.1) ?_
  refine g_iaddN (q := 76) dX9_run_75 rfl ?_
  refine g_istore_n (q := 77) rfl dX9_run_76 rfl (by decide) rfl ?_
  refine g_iconst (q := 78) (v := (nI 0)) dX9_run_77 rfl (by decide) ?_
  refine g_istore_n (q := 79) rfl dX9_run_78 rfl (by decide) rfl ?_
  refine g_lvs (lv1 := [(3, .int (nI 0)), (2, .int (nI (s_fw σ))), (0, .ref o), (1, .int (nI t))]) ⟨rfl, rfl, rfl, rfl, trivial⟩ ?_
  exact K U hU t 0 (A 1) (A 11) (A 10) (I 24) _ (by omega) hst hB
