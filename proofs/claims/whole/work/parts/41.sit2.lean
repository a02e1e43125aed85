/-! class Situation: firstDue, advance, start, copyFrom, isEmpty, forwardedInAll -/
theorem bz_B.tr {L : List Nat} {g0 g g1 : Nat → va_E} {bs bs1 : bz_L} (h : bz_B L g0 g bs) (h1 : bz_B L g g1 bs1) (hm : bs.map (fun b => (b.1, b.2.length)) = bs1.map (fun b => (b.1, b.2.length))) : bz_B L g0 g1 bs1 :=
  ⟨h1.1, fun a ha => (h1.2 a ha).trans (h.2 a (by rw [hm]; exact ha))⟩
theorem s_ans_q {mem : Nat → Int32} {now room sp : Nat} {x : Tx} : ∀ (m : Nat) (q : List Tx) (off : Nat), ∀ y ∈ (s_ans mem now room sp x m q off).1, y ∈ q ∨ tM y = now
  | 0, q, off, y, h => Or.inl h
  | m + 1, q, off, y, h => by
    rw [s_ans] at h
    by_cases c : off < tW x ∧ s_cnt 3 q < room
    · rw [if_pos c] at h
      rcases s_ans_q m _ _ y h with h1 | h1
      · rcases List.mem_append.mp h1 with h2 | h2
        · exact Or.inl h2
        · rw [List.mem_singleton.mp h2]; exact Or.inr rfl
      · exact Or.inr h1
    · rw [if_neg c] at h; exact Or.inl h
theorem s_one_q {now room sp : Nat} {x : Tx} {S : Wk} : ∀ y ∈ (s_one now room sp x S).2.2.1, y ∈ S.1 ∨ tM y = now := by
  intro y hy
  unfold s_one at hy
  by_cases h0 : tK x = 0
  · rw [if_pos h0] at hy; exact Or.inl hy
  · rw [if_neg h0] at hy
    by_cases h1 : tK x = 1
    · rw [if_pos h1] at hy; exact s_ans_q 4 _ _ y hy
    · rw [if_neg h1] at hy
      by_cases h2 : tK x = 2
      · rw [if_pos h2] at hy
        by_cases c : s_cnt 3 S.1 < room
        · rw [if_pos c] at hy
          rcases List.mem_append.mp hy with h3 | h3
          · exact Or.inl h3
          · rw [List.mem_singleton.mp h3]; exact Or.inr rfl
        · rw [if_neg c] at hy; exact Or.inl hy
      · rw [if_neg h2] at hy; exact Or.inl hy
theorem s_work_q {now room sp : Nat} : ∀ (W : List Tx) (S : Wk), ∀ y ∈ (s_work now room sp W S).2.1, y ∈ S.1 ∨ tM y = now
  | [], S, y, h => Or.inl h
  | x :: r, S, y, h => by
    rw [s_work] at h
    by_cases c : tM x ≤ now
    · rw [if_pos c] at h
      rcases s_work_q r _ y h with h1 | h1
      · exact s_one_q y h1
      · exact Or.inr h1
    · rw [if_neg c] at h; exact s_work_q r S y h
theorem s_wkp_q {now room sp : Nat} {P : Po} {t : Nat} (h : ∀ x ∈ P.1, tM x ≤ t) (ht : t ≤ now) : ∀ x ∈ (s_wkp now room sp P).1, tM x ≤ now := fun x hx => by
  rcases s_work_q _ _ x hx with h1 | h1
  · have := h x h1; omega
  · omega
theorem s_fwd_q {tb cr : Nat → Nat} {l : List Int32} {now : Nat} {P P1 : Po} : (∀ x ∈ (s_fwd tb cr l now P P1).2.1.1, x ∈ P.1) ∧ (s_fwd tb cr l now P P1).2.2.1 = P1.1 := by
  unfold s_fwd
  cases s_next tb cr P1.2.1 [] P.1 with
  | none => exact ⟨fun x h => h, rfl⟩
  | some i =>
    dsimp only
    cases P.1[i]? with
    | none => exact ⟨fun x h => h, rfl⟩
    | some y => exact ⟨fun x h => List.mem_of_mem_eraseIdx h, rfl⟩
theorem s_due_gt {now : Nat} : ∀ (W : List Tx) (m : Nat), now < m → now < s_due now W m
  | [], m, h => h
  | x :: r, m, h => by
    rw [s_due]
    by_cases c : now < tM x
    · rw [if_pos c]; exact s_due_gt r _ (by omega)
    · rw [if_neg c]; exact s_due_gt r _ h
theorem s_due_le {now : Nat} : ∀ (W : List Tx) (m : Nat), s_due now W m ≤ m
  | [], m => Nat.le_refl m
  | x :: r, m => by
    rw [s_due]
    by_cases c : now < tM x
    · rw [if_pos c]; have := s_due_le (now := now) r (min m (tM x)); omega
    · rw [if_neg c]; exact s_due_le r m
theorem bz_max0 (m : Nat) (h : m < 2 ^ 31) : (if nI 0 < nI m then nI m else nI 0) = nI m := by
  by_cases e : 0 < m
  · rw [if_pos ((nI_ltI (by decide) h).mpr e)]
  · rw [show m = 0 by omega, if_neg (by decide)]
theorem tB4_1 {a b c d : Bool} (h : tB a ≠ 0) : nI 1 = tB (a || b || c || d) := by cases a <;> simp_all [tB] <;> rfl
theorem tB4_2 {a b c d : Bool} (h : tB b ≠ 0) : nI 1 = tB (a || b || c || d) := by cases a <;> cases b <;> simp_all [tB] <;> rfl
theorem tB4_3 {a b c d : Bool} (h : tB c ≠ 0) : nI 1 = tB (a || b || c || d) := by cases a <;> cases b <;> cases c <;> simp_all [tB] <;> rfl
theorem tB4_4 {a b c d : Bool} (h : ¬ tB d = 0) : nI 1 = tB (a || b || c || d) := by cases a <;> cases b <;> cases c <;> cases d <;> simp_all [tB] <;> rfl
theorem tB4_0 {a b c d : Bool} (h1 : tB a = 0) (h2 : tB b = 0) (h3 : tB c = 0) (h4 : tB d = 0) : nI 0 = tB (a || b || c || d) := by cases a <;> cases b <;> cases c <;> cases d <;> simp_all [tB] <;> rfl
def s_dueS (σ : Si) : Nat := min (s_due σ.1 σ.2.1.2.1 1000000) (s_due σ.1 σ.2.2.2.1 1000000)
def s_idle (pl : Pl) (most : Nat) (σ : Si) : Nat := if s_moved pl σ then 0 else min (most - 1) (s_dueS (s_tick pl σ) - 1 - (s_tick pl σ).1)

set_option maxRecDepth 20000 in
set_option maxHeartbeats 1000000 in
theorem c_firstDue {l : Launch} {E : bz_E} {L : List Nat} {g : Nat → va_E} {o : Nat} {r0 : SR} {σ : Si} (hr : s_srep r0 σ) (hnow : σ.1 < 100000) (hH : bz_H L g o (b_Sit E o r0)) : bz_K l E mX5_firstDue 2 [.ref o] L g (fun r g1 => r = some (.int (nI (s_dueS σ))) ∧ g1 = g) := by
  refine bz_K.of (by decide) (bz_le rfl) (fun sz => ?_)
  show bz_G _ _ _ _ _ _ _ _ _ _ _ _ 0 [(0, .ref o)] []
  obtain ⟨nw, mv, ⟨fq, cq, zq, fw, cw, zw, s, wn, cm, wd, mem, a, b, c⟩, ⟨fq1, cq1, zq1, fw1, cw1, zw1, s1, wn1, cm1, wd1, mem1, a1, b1, c1⟩⟩ := r0
  obtain ⟨hn, hr0, hr1⟩ := hr
  have z0 := hr0.2.2.2.2.1
  have z1 := hr1.2.2.2.2.1
  dsimp only at hn hr0 hr1 z0 z1
  subst hn; subst z0; subst z1
  have hB := bz_B.rf (bz_W.one hH)
  have g0 := s_due_le (now := σ.1) σ.2.1.2.1 1000000
  have g9 := s_due_le (now := σ.1) σ.2.2.2.1 1000000
  refine g_aload_n (q := 1) dX5_firstDue_0 rfl rfl ?_
  refine gb_getf (q := 4) (j := 0) (i := 0) dX5_firstDue_1 rfl fl_X5_12 hB rfl rfl rfl rfl ?_
  refine g_aload_n (q := 5) dX5_firstDue_4 rfl rfl ?_
  refine gb_getf (q := 8) (j := 0) (i := 0) dX5_firstDue_5 rfl fl_X5_21 hB rfl rfl rfl rfl ?_
  refine gb_callV (q := 11) (j := 0) (i := 1) dX5_firstDue_8 rfl kv_X5_81 (c_firstDueAfter hnow hr0.2.2.2.1 hr0.2.2.2.2.2.1 ((hB.1.at (j := 0) rfl).sub 1 rfl)) rfl (by decide) hB rfl rfl rfl rfl (bz_le rfl) (by decide) (by decide) (fun r g1 hQ => ?_)
  obtain ⟨rfl, hg⟩ := hQ
  have hg := hg.symm
  subst hg
  refine g_aload_n (q := 12) dX5_firstDue_11 rfl rfl ?_
  refine gb_getf (q := 15) (j := 0) (i := 0) dX5_firstDue_12 rfl fl_X5_18 hB rfl rfl rfl rfl ?_
  refine g_aload_n (q := 16) dX5_firstDue_15 rfl rfl ?_
  refine gb_getf (q := 19) (j := 0) (i := 0) dX5_firstDue_16 rfl fl_X5_21 hB rfl rfl rfl rfl ?_
  refine gb_callV (q := 22) (j := 0) (i := 14) dX5_firstDue_19 rfl kv_X5_81 (c_firstDueAfter hnow hr1.2.2.2.1 hr1.2.2.2.2.2.1 ((hB.1.at (j := 0) rfl).sub 14 rfl)) rfl (by decide) hB rfl rfl rfl rfl (bz_le rfl) (by decide) (by decide) (fun r g1 hQ => ?_)
  obtain ⟨rfl, hg⟩ := hQ
  have hg := hg.symm
  subst hg
  refine g_min (q := 25) dX5_firstDue_22 rfl kmn_X5_73 (by decide) (bz_le rfl) (by decide) (by decide) ?_
  refine g_eqi (v := nI (s_dueS σ)) (bz_minI (by omega) (by omega)) ?_
  exact g_iret dX5_firstDue_25 rfl (⟨rfl, rfl⟩)
set_option maxRecDepth 20000 in
set_option maxHeartbeats 1000000 in
theorem c_advance {l : Launch} {E : bz_E} {L : List Nat} {g : Nat → va_E} {o p most : Nat} {r0 : SR} {σ : Si} {pl : Pl} {zs cs ts ws v0 i0 v1 i1 : Nat → Int32} {n0 n1 sp tc : Int32} (hr : s_srep r0 σ) (hnow : σ.1 < 80000) (hmost : 1 ≤ most ∧ most < 100000) (hq0 : ∀ x ∈ σ.2.1.1, tM x ≤ σ.1) (hq1 : ∀ x ∈ σ.2.2.1, tM x ≤ σ.1) (hp : s_lpl zs cs ts ws i0 n0 i1 n1 sp tc pl) (hW2 : bz_W L g [(o, b_Sit E o r0), (p, (b_Plan E p zs cs ts ws v0 i0 n0 v1 i1 n1 sp tc))]) : bz_K l E mX5_advance 6 [.ref o, .ref p, .int (nI most)] L g (fun r g1 => r = some (.int (nI (1 + (s_idle pl most σ)))) ∧ ∃ (r1 : SR) (v0' v1' : Nat → Int32), bz_B L g g1 [(o, b_Sit E o r1), (p, (b_Plan E p zs cs ts ws v0' i0 n0 v1' i1 n1 sp tc))] ∧ s_srep r1 ((s_tick pl σ).1 + (s_idle pl most σ), (s_tick pl σ).2) ∧ r1.2.1 = tB (s_moved pl σ)) := by
  refine bz_K.of (by decide) (bz_le rfl) (fun sz => ?_)
  show bz_G _ _ _ _ _ _ _ _ _ _ _ _ 0 [(0, .ref o), (1, .ref p), (2, .int (nI most))] []
  obtain ⟨nw, mv, pr0, pr1⟩ := r0
  obtain ⟨hn, hr0, hr1⟩ := hr
  dsimp only at hn hr0 hr1
  subst hn
  have hB := bz_B.rf hW2
  have J : ∀ (g1 : Nat → va_E) (rd : SR) (v0' v1' : Nat → Int32), bz_B L g g1 [(o, b_Sit E o rd), (p, (b_Plan E p zs cs ts ws v0' i0 n0 v1' i1 n1 sp tc))] → rd.1 = nI (σ.1 + 1) → s_rep rd.2.2.1 (s_tick pl σ).2.1 → s_rep rd.2.2.2 (s_tick pl σ).2.2 → bz_G l E mX5_advance (bz_R 6 0 0) L sz (bz_Fm E L sz (fun r g1 => r = some (.int (nI (1 + (s_idle pl most σ)))) ∧ ∃ (r1 : SR) (v0' v1' : Nat → Int32), bz_B L g g1 [(o, b_Sit E o r1), (p, (b_Plan E p zs cs ts ws v0' i0 n0 v1' i1 n1 sp tc))] ∧ s_srep r1 ((s_tick pl σ).1 + (s_idle pl most σ), (s_tick pl σ).2) ∧ r1.2.1 = tB (s_moved pl σ))) sz 0 0 L g1 96 [(0, .ref o), (1, .ref p), (2, .int (nI most))] [.int (tB (s_moved pl σ)), .ref o] := by
    intro g rd v0' v1' hB hn hr0 hr1
    obtain ⟨nw, mv, pa, pb⟩ := rd
    dsimp only at hn hr0 hr1
    subst hn
    cases hm : s_moved pl σ with
    | true =>
      rw [← hm]
      have hid : (s_idle pl most σ) = 0 := by unfold s_idle; rw [if_pos hm]
      refine gb_putf (q := 99) (j := 0) (i := 0) dX5_advance_96 rfl fp_X5_65 hB rfl rfl rfl (bz_le rfl) (by rw [hm]; rfl) (by rw [hm]; rfl) (fun g hB => ?_)
      refine g_aload_n (q := 100) dX5_advance_99 rfl rfl ?_
      refine gb_getf (q := 103) (j := 0) (i := 0) dX5_advance_100 rfl fl_X5_65 hB rfl rfl rfl rfl ?_
      refine g_if_eq (q := 106) (t := 110) dX5_advance_103 rfl (by decide) (fun c => absurd c (by rw [hm]; decide)) (fun _ => ?_)
      refine g_iconst (q := 107) (v := (nI 0)) dX5_advance_106 rfl (by decide) ?_
      refine g_goto (q := 131) dX5_advance_107 (by decide) ?_
      refine g_istore (q := 133) dX5_advance_131 rfl (by decide) rfl ?_
      refine g_aload_n (q := 134) dX5_advance_133 rfl rfl ?_
      refine g_dup (q := 135) dX5_advance_134 rfl rfl ?_
      refine gb_getf (q := 138) (j := 0) (i := 0) dX5_advance_135 rfl fl_X5_21 hB rfl rfl rfl rfl ?_
      refine g_iload (q := 140) dX5_advance_138 rfl rfl ?_
      refine g_iaddN (q := 141) dX5_advance_140 rfl ?_
      refine gb_putf (q := 144) (j := 0) (i := 0) dX5_advance_141 rfl fp_X5_21 hB rfl rfl rfl (bz_le rfl) rfl rfl (fun g hB => ?_)
      refine g_iconst (q := 145) (v := (nI 1)) dX5_advance_144 rfl (by decide) ?_
      refine g_iload (q := 147) dX5_advance_145 rfl rfl ?_
      refine g_iaddN (q := 148) dX5_advance_147 rfl ?_
      exact g_iret dX5_advance_148 rfl (⟨by rw [hid], (nI ((σ.1 + 1) + 0), tB (s_moved pl σ), pa, pb), v0', v1', hB, ⟨by rw [hid]; rfl, hr0, hr1⟩, rfl⟩)
    | false =>
      rw [← hm]
      have hid : (s_idle pl most σ) = min (most - 1) (s_dueS (s_tick pl σ) - 1 - (σ.1 + 1)) := by unfold s_idle; rw [hm]; rfl
      have g1' := s_due_gt (now := σ.1 + 1) (s_tick pl σ).2.1.2.1 1000000 (by omega)
      have g2' := s_due_gt (now := σ.1 + 1) (s_tick pl σ).2.2.2.1 1000000 (by omega)
      have g3' := s_due_le (now := σ.1 + 1) (s_tick pl σ).2.1.2.1 1000000
      have g4' : s_dueS (s_tick pl σ) = min (s_due (σ.1 + 1) (s_tick pl σ).2.1.2.1 1000000) (s_due (σ.1 + 1) (s_tick pl σ).2.2.2.1 1000000) := rfl
      refine gb_putf (q := 99) (j := 0) (i := 0) dX5_advance_96 rfl fp_X5_65 hB rfl rfl rfl (bz_le rfl) (by rw [hm]; rfl) (by rw [hm]; rfl) (fun g hB => ?_)
      refine g_aload_n (q := 100) dX5_advance_99 rfl rfl ?_
      refine gb_getf (q := 103) (j := 0) (i := 0) dX5_advance_100 rfl fl_X5_65 hB rfl rfl rfl rfl ?_
      refine g_if_eq (q := 106) (t := 110) dX5_advance_103 rfl (by decide) (fun _ => ?_) (fun c => absurd (by rw [hm]; rfl) c)
      refine g_iconst (q := 111) (v := (nI 0)) dX5_advance_110 rfl (by decide) ?_
      refine g_iload_n (q := 112) dX5_advance_111 rfl rfl ?_
      refine g_iconst (q := 113) (v := (nI 1)) dX5_advance_112 rfl (by decide) ?_
      refine g_isubN (q := 114) dX5_advance_113 rfl (by omega) ?_
      refine g_aload_n (q := 115) dX5_advance_114 rfl rfl ?_
      refine gb_callV (q := 118) (j := 0) (i := 0) dX5_advance_115 rfl kv_X5_69 (c_firstDue (r0 := (nI (σ.1 + 1), tB (s_moved pl σ), pa, pb)) (σ := s_tick pl σ) ⟨rfl, hr0, hr1⟩ (by show σ.1 + 1 < 100000; omega) (hB.1.at (j := 0) rfl)) rfl (by decide) hB rfl rfl rfl rfl (bz_le rfl) (by decide) (by decide) (fun r g1 hQ => ?_)
      obtain ⟨rfl, hg⟩ := hQ
      have hg := hg.symm
      subst hg
      refine g_iconst (q := 119) (v := (nI 1)) dX5_advance_118 rfl (by decide) ?_
      refine g_isubN (q := 120) dX5_advance_119 rfl (by omega) ?_
      refine g_aload_n (q := 121) dX5_advance_120 rfl rfl ?_
      refine gb_getf (q := 124) (j := 0) (i := 0) dX5_advance_121 rfl fl_X5_21 hB rfl rfl rfl rfl ?_
      refine g_isubN (q := 125) dX5_advance_124 rfl (by omega) ?_
      refine g_min (q := 128) dX5_advance_125 rfl kmn_X5_73 (by decide) (bz_le rfl) (by decide) (by decide) ?_
      refine g_eqi (v := nI (min (most - 1) (s_dueS (s_tick pl σ) - 1 - (σ.1 + 1)))) (bz_minI (by omega) (by omega)) ?_
      refine g_max (q := 131) dX5_advance_128 rfl kmx_X5_78 (by decide) (bz_le rfl) (by decide) (by decide) ?_
      refine g_eqi (v := nI (min (most - 1) (s_dueS (s_tick pl σ) - 1 - (σ.1 + 1)))) (bz_max0 _ (by omega)) ?_
      refine g_istore (q := 133) dX5_advance_131 rfl (by decide) rfl ?_
      refine g_aload_n (q := 134) dX5_advance_133 rfl rfl ?_
      refine g_dup (q := 135) dX5_advance_134 rfl rfl ?_
      refine gb_getf (q := 138) (j := 0) (i := 0) dX5_advance_135 rfl fl_X5_21 hB rfl rfl rfl rfl ?_
      refine g_iload (q := 140) dX5_advance_138 rfl rfl ?_
      refine g_iaddN (q := 141) dX5_advance_140 rfl ?_
      refine gb_putf (q := 144) (j := 0) (i := 0) dX5_advance_141 rfl fp_X5_21 hB rfl rfl rfl (bz_le rfl) rfl rfl (fun g hB => ?_)
      refine g_iconst (q := 145) (v := (nI 1)) dX5_advance_144 rfl (by decide) ?_
      refine g_iload (q := 147) dX5_advance_145 rfl rfl ?_
      refine g_iaddN (q := 148) dX5_advance_147 rfl ?_
      exact g_iret dX5_advance_148 rfl (⟨by rw [hid], (nI ((σ.1 + 1) + min (most - 1) (s_dueS (s_tick pl σ) - 1 - (σ.1 + 1))), tB (s_moved pl σ), pa, pb), v0', v1', hB, ⟨by rw [hid]; rfl, hr0, hr1⟩, rfl⟩)
  refine g_aload_n (q := 1) dX5_advance_0 rfl rfl ?_
  refine g_dup (q := 2) dX5_advance_1 rfl rfl ?_
  refine gb_getf (q := 5) (j := 0) (i := 0) dX5_advance_2 rfl fl_X5_21 hB rfl rfl rfl rfl ?_
  refine g_iconst (q := 6) (v := (nI 1)) dX5_advance_5 rfl (by decide) ?_
  refine g_iaddN (q := 7) dX5_advance_6 rfl ?_
  refine gb_putf (q := 10) (j := 0) (i := 0) dX5_advance_7 rfl fp_X5_21 hB rfl rfl rfl (bz_le rfl) rfl rfl (fun g hB => ?_)
  refine g_aload_n (q := 11) dX5_advance_10 rfl rfl ?_
  refine gb_getf (q := 14) (j := 0) (i := 0) dX5_advance_11 rfl fl_X5_12 hB rfl rfl rfl rfl ?_
  refine g_aload_n (q := 15) dX5_advance_14 rfl rfl ?_
  refine gb_getf (q := 18) (j := 0) (i := 0) dX5_advance_15 rfl fl_X5_21 hB rfl rfl rfl rfl ?_
  refine g_aload_n (q := 19) dX5_advance_18 rfl rfl ?_
  refine g_iconst (q := 20) (v := (nI 0)) dX5_advance_19 rfl (by decide) ?_
  refine g_iconst (q := 21) (v := (nI 3)) dX5_advance_20 rfl (by decide) ?_
  refine gb_callV (q := 24) (j := 1) (i := 0) dX5_advance_21 rfl kv_X5_48 (c_sizeOf (s := 0) (k := 3) (by decide) (hB.1.at (j := 1) rfl)) rfl (by decide) hB rfl rfl rfl rfl (bz_le rfl) (by decide) (by decide) (fun r g1 hQ => ?_)
  obtain ⟨rfl, hg⟩ := hQ
  have hg := hg.symm
  subst hg
  refine g_eqi (v := nI (pl.1 3)) ((hp.1 3 (by decide)).1) ?_
  refine g_aload_n (q := 25) dX5_advance_24 rfl rfl ?_
  refine gb_getf (q := 28) (j := 1) (i := 0) dX5_advance_25 rfl fl_X5_54 hB rfl rfl rfl rfl ?_
  refine g_eqi (v := nI (pl.2.2.2.2.1)) (hp.2.2.2.1) ?_
  refine gb_callV (q := 31) (j := 0) (i := 1) dX5_advance_28 rfl kv_X5_57 (c_workInTick (P := σ.2.1) (r0 := pr0) (by omega) (hp.1 3 (by decide)).2.2.1 hp.2.2.2.2.1 hr0 ((hB.1.at (j := 0) rfl).sub 1 (e1 := b_PR E (o + 1) pr0) rfl)) rfl (by decide) hB rfl rfl rfl rfl (bz_le rfl) (by decide) (by decide) (fun r g1 hQ => ?_)
  obtain ⟨rfl, ra, h1, hra⟩ := hQ
  have hB := hB.sp (j := 0) rfl 1 rfl h1 (bz_le rfl)
  refine g_istore_n (q := 32) rfl dX5_advance_31 rfl (by decide) rfl ?_
  refine g_aload_n (q := 33) dX5_advance_32 rfl rfl ?_
  refine gb_getf (q := 36) (j := 0) (i := 0) dX5_advance_33 rfl fl_X5_18 hB rfl rfl rfl rfl ?_
  refine g_aload_n (q := 37) dX5_advance_36 rfl rfl ?_
  refine gb_getf (q := 40) (j := 0) (i := 0) dX5_advance_37 rfl fl_X5_21 hB rfl rfl rfl rfl ?_
  refine g_aload_n (q := 41) dX5_advance_40 rfl rfl ?_
  refine g_iconst (q := 42) (v := (nI 1)) dX5_advance_41 rfl (by decide) ?_
  refine g_iconst (q := 43) (v := (nI 3)) dX5_advance_42 rfl (by decide) ?_
  refine gb_callV (q := 46) (j := 1) (i := 0) dX5_advance_43 rfl kv_X5_48 (c_sizeOf (s := 1) (k := 3) (by decide) (hB.1.at (j := 1) rfl)) rfl (by decide) hB rfl rfl rfl rfl (bz_le rfl) (by decide) (by decide) (fun r g1 hQ => ?_)
  obtain ⟨rfl, hg⟩ := hQ
  have hg := hg.symm
  subst hg
  refine g_eqi (v := nI (pl.1 7)) ((hp.1 7 (by decide)).1) ?_
  refine g_aload_n (q := 47) dX5_advance_46 rfl rfl ?_
  refine gb_getf (q := 50) (j := 1) (i := 0) dX5_advance_47 rfl fl_X5_54 hB rfl rfl rfl rfl ?_
  refine g_eqi (v := nI (pl.2.2.2.2.1)) (hp.2.2.2.1) ?_
  refine gb_callV (q := 53) (j := 0) (i := 14) dX5_advance_50 rfl kv_X5_57 (c_workInTick (P := σ.2.2) (r0 := pr1) (by omega) (hp.1 7 (by decide)).2.2.1 hp.2.2.2.2.1 hr1 ((hB.1.at (j := 0) rfl).sub 14 (e1 := b_PR E (o + 14) pr1) rfl)) rfl (by decide) hB rfl rfl rfl rfl (bz_le rfl) (by decide) (by decide) (fun r g1 hQ => ?_)
  obtain ⟨rfl, rb, h1, hrb⟩ := hQ
  have hB := hB.sp (j := 0) rfl 14 rfl h1 (bz_le rfl)
  refine g_istore (q := 55) dX5_advance_53 rfl (by decide) rfl ?_
  refine g_aload_n (q := 56) dX5_advance_55 rfl rfl ?_
  refine g_aload_n (q := 57) dX5_advance_56 rfl rfl ?_
  refine g_iconst (q := 58) (v := (nI 0)) dX5_advance_57 rfl (by decide) ?_
  refine gb_callV (q := 61) (j := 0) (i := 0) dX5_advance_58 rfl kv_X5_61 (c_forwardFrom0 (r0 := (nI (σ.1 + 1), mv, ra, rb)) (σ := s_t1 pl σ) hra hrb rfl (by show σ.1 + 1 < 90000; omega) (s_wkp_q hq0 (by omega)) hp hB.1) rfl (by decide) hB rfl rfl rfl rfl (bz_le rfl) (by decide) (by decide) (fun r g1 hQ => ?_)
  obtain ⟨rfl, rc, v1', h1, hn1, hm1, hrc0, hrc1⟩ := hQ
  have hB := hB.tr h1 rfl
  refine g_istore (q := 63) dX5_advance_61 rfl (by decide) rfl ?_
  refine g_aload_n (q := 64) dX5_advance_63 rfl rfl ?_
  refine g_aload_n (q := 65) dX5_advance_64 rfl rfl ?_
  refine g_iconst (q := 66) (v := (nI 1)) dX5_advance_65 rfl (by decide) ?_
  refine gb_callV (q := 69) (j := 0) (i := 0) dX5_advance_66 rfl kv_X5_61 (c_forwardFrom1 (r0 := rc) (v1 := v1') (σ := (s_f0 pl (s_t1 pl σ)).2) hrc0 hrc1 hn1 (by show σ.1 + 1 < 90000; omega) (by show ∀ x ∈ (s_fwd _ _ _ _ _ _).2.2.1, _; rw [s_fwd_q.2]; exact s_wkp_q hq1 (by omega)) hp hB.1) rfl (by decide) hB rfl rfl rfl rfl (bz_le rfl) (by decide) (by decide) (fun r g1 hQ => ?_)
  obtain ⟨rfl, rd, v0', h1, hn2, hm2, hrd0, hrd1⟩ := hQ
  have hB := hB.tr h1 rfl
  refine g_istore (q := 71) dX5_advance_69 rfl (by decide) rfl ?_
  refine g_aload_n (q := 72) dX5_advance_71 rfl rfl ?_
  refine g_iload_n (q := 73) dX5_advance_72 rfl rfl ?_
  refine g_if_ne (q := 76) (t := 91) dX5_advance_73 rfl (by decide) (fun c_73 => ?_) (fun c_73 => ?_)
  · refine g_iconst (q := 92) (v := (nI 1)) dX5_advance_91 rfl (by decide) ?_
    refine g_goto (q := 96) dX5_advance_92 (by decide) ?_
    refine g_lvs (lv1 := [(0, .ref o), (1, .ref p), (2, .int (nI most))]) ⟨rfl, rfl, rfl, trivial⟩ ?_
    refine g_eqi (v := tB (s_moved pl σ)) (by first | exact tB4_1 c_73 | exact tB4_2 c_78 | exact tB4_3 c_83 | exact tB4_4 c_88 | exact tB4_0 c_73 c_78 c_83 c_88) ?_
    exact J _ rd v0' v1' hB hn2 hrd0 hrd1
  · refine g_iload (q := 78) dX5_advance_76 rfl rfl ?_
    refine g_if_ne (q := 81) (t := 91) dX5_advance_78 rfl (by decide) (fun c_78 => ?_) (fun c_78 => ?_)
    · refine g_iconst (q := 92) (v := (nI 1)) dX5_advance_91 rfl (by decide) ?_
      refine g_goto (q := 96) dX5_advance_92 (by decide) ?_
      refine g_lvs (lv1 := [(0, .ref o), (1, .ref p), (2, .int (nI most))]) ⟨rfl, rfl, rfl, trivial⟩ ?_
      refine g_eqi (v := tB (s_moved pl σ)) (by first | exact tB4_1 c_73 | exact tB4_2 c_78 | exact tB4_3 c_83 | exact tB4_4 c_88 | exact tB4_0 c_73 c_78 c_83 c_88) ?_
      exact J _ rd v0' v1' hB hn2 hrd0 hrd1
    · refine g_iload (q := 83) dX5_advance_81 rfl rfl ?_
      refine g_if_ne (q := 86) (t := 91) dX5_advance_83 rfl (by decide) (fun c_83 => ?_) (fun c_83 => ?_)
      · refine g_iconst (q := 92) (v := (nI 1)) dX5_advance_91 rfl (by decide) ?_
        refine g_goto (q := 96) dX5_advance_92 (by decide) ?_
        refine g_lvs (lv1 := [(0, .ref o), (1, .ref p), (2, .int (nI most))]) ⟨rfl, rfl, rfl, trivial⟩ ?_
        refine g_eqi (v := tB (s_moved pl σ)) (by first | exact tB4_1 c_73 | exact tB4_2 c_78 | exact tB4_3 c_83 | exact tB4_4 c_88 | exact tB4_0 c_73 c_78 c_83 c_88) ?_
        exact J _ rd v0' v1' hB hn2 hrd0 hrd1
      · refine g_iload (q := 88) dX5_advance_86 rfl rfl ?_
        refine g_if_eq (q := 91) (t := 95) dX5_advance_88 rfl (by decide) (fun c_88 => ?_) (fun c_88 => ?_)
        · refine g_iconst (q := 96) (v := (nI 0)) dX5_advance_95 rfl (by decide) ?_
          refine g_lvs (lv1 := [(0, .ref o), (1, .ref p), (2, .int (nI most))]) ⟨rfl, rfl, rfl, trivial⟩ ?_
          refine g_eqi (v := tB (s_moved pl σ)) (by first | exact tB4_1 c_73 | exact tB4_2 c_78 | exact tB4_3 c_83 | exact tB4_4 c_88 | exact tB4_0 c_73 c_78 c_83 c_88) ?_
          exact J _ rd v0' v1' hB hn2 hrd0 hrd1
        · refine g_iconst (q := 92) (v := (nI 1)) dX5_advance_91 rfl (by decide) ?_
          refine g_goto (q := 96) dX5_advance_92 (by decide) ?_
          refine g_lvs (lv1 := [(0, .ref o), (1, .ref p), (2, .int (nI most))]) ⟨rfl, rfl, rfl, trivial⟩ ?_
          refine g_eqi (v := tB (s_moved pl σ)) (by first | exact tB4_1 c_73 | exact tB4_2 c_78 | exact tB4_3 c_83 | exact tB4_4 c_88 | exact tB4_0 c_73 c_78 c_83 c_88) ?_
          exact J _ rd v0' v1' hB hn2 hrd0 hrd1
set_option maxRecDepth 20000 in
set_option maxHeartbeats 1000000 in
theorem c_sstart {l : Launch} {E : bz_E} {L : List Nat} {g : Nat → va_E} {o p : Nat} {r0 : SR} {zs cs ts ws v0 i0 v1 i1 : Nat → Int32} {n0 n1 sp tc : Int32} (hH : bz_H L g o (b_Sit E o r0)) (hJ : bz_H L g p (b_Plan E p zs cs ts ws v0 i0 n0 v1 i1 n1 sp tc)) (hd : o + 27 ≤ p ∨ p + 11 ≤ o) : bz_K l E mX5_start 3 [.ref o, .ref p] L g (fun r g1 => r = none ∧ bz_B L g g1 [(o, b_Sit E o (nI 0, r0.2.1, s_st0 r0.2.2.1 (fun j => ws (0 * 16 + j)), s_st0 r0.2.2.2 (fun j => ws (1 * 16 + j))))]) := by
  refine bz_K.of (by decide) (bz_le rfl) (fun sz => ?_)
  show bz_G _ _ _ _ _ _ _ _ _ _ _ _ 0 [(0, .ref o), (1, .ref p)] []
  obtain ⟨nw, mv, pr0, pr1⟩ := r0
  have hB := bz_B.rf (bz_W.two hH hJ hd)
  refine g_aload_n (q := 1) dX5_start_0 rfl rfl ?_
  refine g_iconst (q := 2) (v := (nI 0)) dX5_start_1 rfl (by decide) ?_
  refine gb_putf (q := 5) (j := 0) (i := 0) dX5_start_2 rfl fp_X5_21 hB rfl rfl rfl (bz_le rfl) rfl rfl (fun g hB => ?_)
  refine g_aload_n (q := 6) dX5_start_5 rfl rfl ?_
  refine gb_getf (q := 9) (j := 0) (i := 0) dX5_start_6 rfl fl_X5_12 hB rfl rfl rfl rfl ?_
  refine g_aload_n (q := 10) dX5_start_9 rfl rfl ?_
  refine g_iconst (q := 11) (v := (nI 0)) dX5_start_10 rfl (by decide) ?_
  refine gb_callV (q := 14) (j := 0) (i := 1) dX5_start_11 rfl kv_X5_25 (c_pstart (sd := 0) (r0 := pr0) (by decide) ((hB.1.at (j := 0) rfl).sub 1 rfl) (hB.1.at (j := 1) rfl) (by omega)) rfl (by decide) hB rfl rfl rfl rfl (bz_le rfl) (by decide) (by decide) (fun r g1 hQ => ?_)
  obtain ⟨rfl, h1⟩ := hQ
  have hB := hB.sp (j := 0) rfl 1 rfl h1 (bz_le rfl)
  refine g_aload_n (q := 15) dX5_start_14 rfl rfl ?_
  refine gb_getf (q := 18) (j := 0) (i := 0) dX5_start_15 rfl fl_X5_18 hB rfl rfl rfl rfl ?_
  refine g_aload_n (q := 19) dX5_start_18 rfl rfl ?_
  refine g_iconst (q := 20) (v := (nI 1)) dX5_start_19 rfl (by decide) ?_
  refine gb_callV (q := 23) (j := 0) (i := 14) dX5_start_20 rfl kv_X5_25 (c_pstart (sd := 1) (r0 := pr1) (by decide) ((hB.1.at (j := 0) rfl).sub 14 rfl) (hB.1.at (j := 1) rfl) (by omega)) rfl (by decide) hB rfl rfl rfl rfl (bz_le rfl) (by decide) (by decide) (fun r g1 hQ => ?_)
  obtain ⟨rfl, h1⟩ := hQ
  have hB := hB.sp (j := 0) rfl 14 rfl h1 (bz_le rfl)
  exact g_vret dX5_start_23 rfl (⟨rfl, bz_B.fst hB hJ⟩)
def s_cps (r0 r2 : SR) (σ : Si) : SR := (r2.1, r0.2.1, s_cpr r0.2.2.1 r2.2.2.1 σ.2.1.1.length σ.2.1.2.1.length, s_cpr r0.2.2.2 r2.2.2.2 σ.2.2.1.length σ.2.2.2.1.length)
set_option maxRecDepth 20000 in
set_option maxHeartbeats 1000000 in
theorem c_scopyFrom {l : Launch} {E : bz_E} {L : List Nat} {g : Nat → va_E} {o p : Nat} {r0 r2 : SR} {σ : Si} (hr : s_srep r2 σ) (hH : bz_H L g o (b_Sit E o r0)) (hJ : bz_H L g p (b_Sit E p r2)) (hd : o + 27 ≤ p ∨ p + 27 ≤ o) : bz_K l E mX5_copyFrom 3 [.ref o, .ref p] L g (fun r g1 => r = none ∧ bz_B L g g1 [(o, b_Sit E o (s_cps r0 r2 σ))]) := by
  refine bz_K.of (by decide) (bz_le rfl) (fun sz => ?_)
  show bz_G _ _ _ _ _ _ _ _ _ _ _ _ 0 [(0, .ref o), (1, .ref p)] []
  obtain ⟨nw, mv, pr0, pr1⟩ := r0
  obtain ⟨nw2, mv2, qr0, qr1⟩ := r2
  obtain ⟨hn, hr0, hr1⟩ := hr
  have hB := bz_B.rf (bz_W.two hH hJ hd)
  refine g_aload_n (q := 1) dX5_copyFrom_0 rfl rfl ?_
  refine g_aload_n (q := 2) dX5_copyFrom_1 rfl rfl ?_
  refine gb_getf (q := 5) (j := 1) (i := 0) dX5_copyFrom_2 rfl fl_X5_21 hB rfl rfl rfl rfl ?_
  refine gb_putf (q := 8) (j := 0) (i := 0) dX5_copyFrom_5 rfl fp_X5_21 hB rfl rfl rfl (bz_le rfl) rfl rfl (fun g hB => ?_)
  refine g_aload_n (q := 9) dX5_copyFrom_8 rfl rfl ?_
  refine gb_getf (q := 12) (j := 0) (i := 0) dX5_copyFrom_9 rfl fl_X5_12 hB rfl rfl rfl rfl ?_
  refine g_aload_n (q := 13) dX5_copyFrom_12 rfl rfl ?_
  refine gb_getf (q := 16) (j := 1) (i := 0) dX5_copyFrom_13 rfl fl_X5_12 hB rfl rfl rfl rfl ?_
  refine gb_callV (q := 19) (j := 0) (i := 1) dX5_copyFrom_16 rfl kv_X5_29 (c_pcopyFrom (P := σ.2.1) (r0 := pr0) (r2 := qr0) hr0 ((hB.1.at (j := 0) rfl).sub 1 rfl) ((hB.1.at (j := 1) rfl).sub 1 rfl) (by omega)) rfl (by decide) hB rfl rfl rfl rfl (bz_le rfl) (by decide) (by decide) (fun r g1 hQ => ?_)
  obtain ⟨rfl, h1⟩ := hQ
  have hB := hB.sp (j := 0) rfl 1 rfl h1 (bz_le rfl)
  refine g_aload_n (q := 20) dX5_copyFrom_19 rfl rfl ?_
  refine gb_getf (q := 23) (j := 0) (i := 0) dX5_copyFrom_20 rfl fl_X5_18 hB rfl rfl rfl rfl ?_
  refine g_aload_n (q := 24) dX5_copyFrom_23 rfl rfl ?_
  refine gb_getf (q := 27) (j := 1) (i := 0) dX5_copyFrom_24 rfl fl_X5_18 hB rfl rfl rfl rfl ?_
  refine gb_callV (q := 30) (j := 0) (i := 14) dX5_copyFrom_27 rfl kv_X5_29 (c_pcopyFrom (P := σ.2.2) (r0 := pr1) (r2 := qr1) hr1 ((hB.1.at (j := 0) rfl).sub 14 rfl) ((hB.1.at (j := 1) rfl).sub 14 rfl) (by omega)) rfl (by decide) hB rfl rfl rfl rfl (bz_le rfl) (by decide) (by decide) (fun r g1 hQ => ?_)
  obtain ⟨rfl, h1⟩ := hQ
  have hB := hB.sp (j := 0) rfl 14 rfl h1 (bz_le rfl)
  exact g_vret dX5_copyFrom_30 rfl (⟨rfl, bz_B.fst hB hJ⟩)
set_option maxRecDepth 20000 in
set_option maxHeartbeats 1000000 in
theorem c_isEmpty {l : Launch} {E : bz_E} {L : List Nat} {g : Nat → va_E} {o : Nat} {r0 : SR} {σ : Si} (hr : s_srep r0 σ) (hH : bz_H L g o (b_Sit E o r0)) : bz_K l E mX5_isEmpty 0 [.ref o] L g (fun r g1 => r = some (.int (tB (decide (σ.2.1.1.length + σ.2.1.2.1.length + σ.2.2.1.length + σ.2.2.2.1.length = 0)))) ∧ g1 = g) := by
  refine bz_K.of (by decide) (bz_le rfl) (fun sz => ?_)
  show bz_G _ _ _ _ _ _ _ _ _ _ _ _ 0 [(0, .ref o)] []
  obtain ⟨nw, mv, ⟨fq, cq, zq, fw, cw, zw, s, wn, cm, wd, mem, a, b, c⟩, ⟨fq1, cq1, zq1, fw1, cw1, zw1, s1, wn1, cm1, wd1, mem1, a1, b1, c1⟩⟩ := r0
  obtain ⟨hn, hr0, hr1⟩ := hr
  have z0 := hr0.2.1
  have z1 := hr1.2.1
  have y0 := hr0.2.2.2.2.1
  have y1 := hr1.2.2.2.2.1
  have f0 := hr0.2.2.2.2.2.2.2.2.1
  have f1 := hr1.2.2.2.2.2.2.2.2.1
  dsimp only at hn hr0 hr1 z0 z1 y0 y1 f0 f1
  subst z0; subst z1; subst y0; subst y1; subst f0; subst f1
  have l0 := hr0.2.2.1.len
  have l1 := hr1.2.2.1.len
  have l2 := hr0.2.2.2.2.2.1.len
  have l3 := hr1.2.2.2.2.2.1.len
  have hB := bz_B.rf (bz_W.one hH)
  refine g_aload_n (q := 1) dX5_isEmpty_0 rfl rfl ?_
  refine gb_getf (q := 4) (j := 0) (i := 0) dX5_isEmpty_1 rfl fl_X5_12 hB rfl rfl rfl rfl ?_
  refine gb_getf (q := 7) (j := 0) (i := 1) dX5_isEmpty_4 rfl fl_X5_33 hB rfl rfl rfl rfl ?_
  refine gb_getf (q := 10) (j := 0) (i := 2) dX5_isEmpty_7 rfl fl_X5_37 hB rfl rfl rfl rfl ?_
  refine g_aload_n (q := 11) dX5_isEmpty_10 rfl rfl ?_
  refine gb_getf (q := 14) (j := 0) (i := 0) dX5_isEmpty_11 rfl fl_X5_12 hB rfl rfl rfl rfl ?_
  refine gb_getf (q := 17) (j := 0) (i := 1) dX5_isEmpty_14 rfl fl_X5_42 hB rfl rfl rfl rfl ?_
  refine gb_getf (q := 20) (j := 0) (i := 5) dX5_isEmpty_17 rfl fl_X5_37 hB rfl rfl rfl rfl ?_
  refine g_iaddN (q := 21) dX5_isEmpty_20 rfl ?_
  refine g_aload_n (q := 22) dX5_isEmpty_21 rfl rfl ?_
  refine gb_getf (q := 25) (j := 0) (i := 0) dX5_isEmpty_22 rfl fl_X5_18 hB rfl rfl rfl rfl ?_
  refine gb_getf (q := 28) (j := 0) (i := 14) dX5_isEmpty_25 rfl fl_X5_33 hB rfl rfl rfl rfl ?_
  refine gb_getf (q := 31) (j := 0) (i := 15) dX5_isEmpty_28 rfl fl_X5_37 hB rfl rfl rfl rfl ?_
  refine g_iaddN (q := 32) dX5_isEmpty_31 rfl ?_
  refine g_aload_n (q := 33) dX5_isEmpty_32 rfl rfl ?_
  refine gb_getf (q := 36) (j := 0) (i := 0) dX5_isEmpty_33 rfl fl_X5_18 hB rfl rfl rfl rfl ?_
  refine gb_getf (q := 39) (j := 0) (i := 14) dX5_isEmpty_36 rfl fl_X5_42 hB rfl rfl rfl rfl ?_
  refine gb_getf (q := 42) (j := 0) (i := 18) dX5_isEmpty_39 rfl fl_X5_37 hB rfl rfl rfl rfl ?_
  refine g_iaddN (q := 43) dX5_isEmpty_42 rfl ?_
  refine g_ifN_ne (q := 46) (t := 50) dX5_isEmpty_43 rfl (by decide) (by omega) (fun c_43 => ?_) (fun c_43 => ?_)
  · refine g_iconst (q := 51) (v := (nI 0)) dX5_isEmpty_50 rfl (by decide) ?_
    exact g_zret dX5_isEmpty_51 rfl rfl ⟨by first | exact congrArg (fun z => some (Value.int z)) (tB_t (decide_eq_true (by omega))) | exact congrArg (fun z => some (Value.int z)) (tB_f (decide_eq_false (by omega))), rfl⟩
  · refine g_iconst (q := 47) (v := (nI 1)) dX5_isEmpty_46 rfl (by decide) ?_
    refine g_goto (q := 51) dX5_isEmpty_47 (by decide) ?_
    exact g_zret dX5_isEmpty_51 rfl rfl ⟨by first | exact congrArg (fun z => some (Value.int z)) (tB_t (decide_eq_true (by omega))) | exact congrArg (fun z => some (Value.int z)) (tB_f (decide_eq_false (by omega))), rfl⟩
set_option maxRecDepth 20000 in
set_option maxHeartbeats 1000000 in
theorem c_forwardedInAll {l : Launch} {E : bz_E} {L : List Nat} {g : Nat → va_E} {o : Nat} {r0 : SR} {σ : Si} (hr : s_srep r0 σ) (hH : bz_H L g o (b_Sit E o r0)) : bz_K l E mX5_forwardedInAll 0 [.ref o] L g (fun r g1 => r = some (.int (nI (σ.2.1.2.2.2.2.1 + σ.2.2.2.2.2.2.1))) ∧ g1 = g) := by
  refine bz_K.of (by decide) (bz_le rfl) (fun sz => ?_)
  show bz_G _ _ _ _ _ _ _ _ _ _ _ _ 0 [(0, .ref o)] []
  obtain ⟨nw, mv, ⟨fq, cq, zq, fw, cw, zw, s, wn, cm, wd, mem, a, b, c⟩, ⟨fq1, cq1, zq1, fw1, cw1, zw1, s1, wn1, cm1, wd1, mem1, a1, b1, c1⟩⟩ := r0
  obtain ⟨hn, hr0, hr1⟩ := hr
  have z0 := hr0.2.1
  have z1 := hr1.2.1
  have y0 := hr0.2.2.2.2.1
  have y1 := hr1.2.2.2.2.1
  have f0 := hr0.2.2.2.2.2.2.2.2.1
  have f1 := hr1.2.2.2.2.2.2.2.2.1
  dsimp only at hn hr0 hr1 z0 z1 y0 y1 f0 f1
  subst z0; subst z1; subst y0; subst y1; subst f0; subst f1
  have l0 := hr0.2.2.1.len
  have l1 := hr1.2.2.1.len
  have l2 := hr0.2.2.2.2.2.1.len
  have l3 := hr1.2.2.2.2.2.1.len
  have hB := bz_B.rf (bz_W.one hH)
  refine g_aload_n (q := 1) dX5_forwardedInAll_0 rfl rfl ?_
  refine gb_getf (q := 4) (j := 0) (i := 0) dX5_forwardedInAll_1 rfl fl_X5_12 hB rfl rfl rfl rfl ?_
  refine gb_getf (q := 7) (j := 0) (i := 1) dX5_forwardedInAll_4 rfl fl_X5_45 hB rfl rfl rfl rfl ?_
  refine g_aload_n (q := 8) dX5_forwardedInAll_7 rfl rfl ?_
  refine gb_getf (q := 11) (j := 0) (i := 0) dX5_forwardedInAll_8 rfl fl_X5_18 hB rfl rfl rfl rfl ?_
  refine gb_getf (q := 14) (j := 0) (i := 14) dX5_forwardedInAll_11 rfl fl_X5_45 hB rfl rfl rfl rfl ?_
  refine g_iaddN (q := 15) dX5_forwardedInAll_14 rfl ?_
  exact g_iret dX5_forwardedInAll_15 rfl (⟨rfl, rfl⟩)
