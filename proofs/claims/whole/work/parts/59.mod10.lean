/-! the reference: ticks -/
def m_pl (A : Nat → Nat → Int32) (pl : Pl) : Prop :=
  (∀ k, k < 8 → A 2 k = nI (pl.1 k) ∧ 1 ≤ pl.1 k ∧ pl.1 k ≤ 8 ∧ A 3 k = nI (pl.2.1 k) ∧ pl.2.1 k ≤ 8) ∧ (∀ k, k < 16 → A 4 k = nI (pl.2.2.1 k) ∧ pl.2.2.1 k ≤ 1) ∧ (∀ k, k < 32 → A 5 k = nI (pl.2.2.2.1 k)) ∧
  A 6 0 = nI pl.2.2.2.2.1 ∧ (1 ≤ pl.2.2.2.2.1 ∧ pl.2.2.2.2.1 ≤ 4) ∧ A 6 1 = nI pl.2.2.2.2.2.1 ∧ (1 ≤ pl.2.2.2.2.2.1 ∧ pl.2.2.2.2.2.1 ≤ 8) ∧
  (A 7 0 = nI pl.2.2.2.2.2.2.1.length ∧ pl.2.2.2.2.2.2.1.length ≤ 600 ∧ (∀ (j : Nat) (x : Int32), pl.2.2.2.2.2.2.1[j]? = some x → A 8 (620 * 0 + j) = m_cd x) ∧ e_ok pl.2.2.2.2.2.2.1 0) ∧
  (A 7 1 = nI pl.2.2.2.2.2.2.2.length ∧ pl.2.2.2.2.2.2.2.length ≤ 600 ∧ (∀ (j : Nat) (x : Int32), pl.2.2.2.2.2.2.2[j]? = some x → A 8 (620 * 1 + j) = m_cd x) ∧ e_ok pl.2.2.2.2.2.2.2 0)
def m_st (N : Nat → Int32) (σ : Si) : Prop := N 0 = nI σ.1 ∧ m_sd N 0 σ.2.1 ∧ m_sd N 1 σ.2.2
/-- what a tick may meet -/
def s_tok (pl : Pl) (σ : Si) : Prop := s_wok (σ.1 + 1) (pl.1 3) pl.2.2.2.2.1 σ.2.1.2.1 (σ.2.1.1, σ.2.1.2.2.1, σ.2.1.2.2.2.1) ∧ s_wok (σ.1 + 1) (pl.1 7) pl.2.2.2.2.1 σ.2.2.2.1 (σ.2.2.1, σ.2.2.2.2.1, σ.2.2.2.2.2.1) ∧ (∀ x ∈ σ.2.1.1, tM x ≤ σ.1) ∧ (∀ x ∈ σ.2.2.1, tM x ≤ σ.1) ∧ s_cnt 3 σ.2.1.1 ≤ pl.1 3 ∧ s_cnt 3 σ.2.2.1 ≤ pl.1 7
theorem tB_if4 {a b c d : Bool} : (if d then nI 1 else if c then nI 1 else if b then nI 1 else if a then nI 1 else nI 0) = tB (a || b || c || d) := by cases a <;> cases b <;> cases c <;> cases d <;> rfl

set_option maxRecDepth 20000 in
set_option maxHeartbeats 1000000 in
theorem c_mticks {l : Launch} {E : bz_E} {L : List Nat} {g : Nat → va_E} {o : Nat} {I : Nat → Int32} {A : Nat → Nat → Int32} {pl : Pl} {σ : Si} (hpl : m_pl A pl) (hst : m_st (A 1) σ) (htk : s_tok pl σ) (hnow : σ.1 < 80000) (hH : bz_H L g o (b_Mod E o I A)) : bz_K l E mX9_ticks 5 [.ref o] L g (fun r g1 => r = none ∧ ∃ N1 F v : Nat → Int32, bz_B L g g1 [(o, b_Mod E o (va_up I 24 (tB (s_moved pl σ))) (va_up (va_up (va_up A 11 F) 10 v) 1 N1))] ∧ m_st N1 (s_tick pl σ)) := by
  refine bz_K.of (by decide) (bz_le rfl) (fun sz => ?_)
  show bz_G _ _ _ _ _ _ _ _ _ _ _ _ 0 [(0, .ref o)] []
  have hB := bz_B.rf (bz_W.one hH)
  have hu0 : (upd (A 1) 0 (nI (σ.1 + 1))) 0 = nI (σ.1 + 1) := upd_eq
  have hmv : tB (s_moved pl σ) = (if (s_f1 pl (s_f0 pl (s_t1 pl σ)).2).1 then nI 1 else (if (s_f0 pl (s_t1 pl σ)).1 then nI 1 else (if s_mvd σ.2.2 (s_t1 pl σ).2.2 then nI 1 else (if s_mvd σ.2.1 (s_t1 pl σ).2.1 then nI 1 else nI 0)))) := by unfold s_moved; exact tB_if4.symm
  refine g_aload_n (q := 1) dX9_ticks_0 rfl rfl ?_
  refine gb_getf (q := 4) (j := 0) (i := 0) dX9_ticks_1 rfl fl_X9_7 hB rfl rfl rfl rfl ?_
  refine g_iconst (q := 5) (v := (nI 0)) dX9_ticks_4 rfl (by decide) ?_
  refine g_dup2 (q := 6) dX9_ticks_5 rfl rfl rfl ?_
  refine gb_ialdN (q := 7) (j := 0) (i := 1) dX9_ticks_6 rfl hB rfl rfl rfl (by omega) (by decide) ?_
  refine g_eqi (v := nI (σ.1)) (hst.1) ?_
  refine g_iconst (q := 8) (v := (nI 1)) dX9_ticks_7 rfl (by decide) ?_
  refine g_iaddN (q := 9) dX9_ticks_8 rfl ?_
  refine gb_iastN (q := 10) (j := 0) (i := 1) dX9_ticks_9 rfl hB rfl rfl rfl (by omega) (by decide) (fun g hB => ?_)
  refine g_aload_n (q := 11) dX9_ticks_10 rfl rfl ?_
  refine g_iconst (q := 12) (v := (nI 0)) dX9_ticks_11 rfl (by decide) ?_
  refine gb_putf (q := 15) (j := 0) (i := 0) dX9_ticks_12 rfl fp_X9_285 hB rfl rfl rfl (bz_le rfl) rfl rfl (fun g hB => ?_)
  refine g_aload_n (q := 16) dX9_ticks_15 rfl rfl ?_
  refine g_iconst (q := 17) (v := (nI 0)) dX9_ticks_16 rfl (by decide) ?_
  refine gb_callV (q := 20) (j := 0) (i := 0) dX9_ticks_17 rfl kv_X9_299 (c_mtargets (I := va_up I 24 (nI 0)) (A := va_up A 1 (upd (A 1) 0 (nI (σ.1 + 1)))) (s := 0) (now := σ.1 + 1) (rm := pl.1 3) (sp := pl.2.2.2.2.1) (P := σ.2.1) (by decide) (m_sd_fr hst.2.1 (fun j hj => by unfold m_rg at hj; exact upd_ne (by omega))) htk.1 hu0 (by omega) (hpl.1 3 (by decide)).1 (hpl.1 3 (by decide)).2.2.1 htk.2.2.2.2.1 hpl.2.2.2.1 hpl.2.2.2.2.1 (hB.1.at (j := 0) rfl)) rfl (by decide) hB rfl rfl rfl rfl (bz_le rfl) (by decide) (by decide) (fun r g1 hQ => ?_)
  obtain ⟨rfl, N1, h1, hA1, hA2, hA3⟩ := hQ
  have hB := hB.sp (j := 0) rfl 0 rfl h1 (bz_le rfl)
  refine g_aload_n (q := 21) dX9_ticks_20 rfl rfl ?_
  refine g_iconst (q := 22) (v := (nI 1)) dX9_ticks_21 rfl (by decide) ?_
  refine gb_callV (q := 25) (j := 0) (i := 0) dX9_ticks_22 rfl kv_X9_299 (c_mtargets (I := va_up I 24 (if s_mvd σ.2.1 (s_t1 pl σ).2.1 then nI 1 else nI 0)) (A := va_up A 1 N1) (s := 1) (now := σ.1 + 1) (rm := pl.1 7) (sp := pl.2.2.2.2.1) (P := σ.2.2) (by decide) (m_sd_fr hst.2.2 (fun j hj => by unfold m_rg at hj; exact (hA3 j (by unfold m_rg; omega)).trans (upd_ne (by omega)))) htk.2.1 ((hA3 0 (by unfold m_rg; omega)).trans hu0) (by omega) (hpl.1 7 (by decide)).1 (hpl.1 7 (by decide)).2.2.1 htk.2.2.2.2.2 hpl.2.2.2.1 hpl.2.2.2.2.1 (hB.1.at (j := 0) rfl)) rfl (by decide) hB rfl rfl rfl rfl (bz_le rfl) (by decide) (by decide) (fun r g1 hQ => ?_)
  obtain ⟨rfl, N2, h1, hC1, hC2, hC3⟩ := hQ
  have hB := hB.sp (j := 0) rfl 0 rfl h1 (bz_le rfl)
  refine g_aload_n (q := 26) dX9_ticks_25 rfl rfl ?_
  refine g_iconst (q := 27) (v := (nI 0)) dX9_ticks_26 rfl (by decide) ?_
  refine gb_callV (q := 30) (j := 0) (i := 0) dX9_ticks_27 rfl kv_X9_302 (c_mforwards (I := va_up I 24 (if s_mvd σ.2.2 (s_t1 pl σ).2.2 then nI 1 else (if s_mvd σ.2.1 (s_t1 pl σ).2.1 then nI 1 else nI 0))) (A := va_up A 1 N2) (s := 0) (now := σ.1 + 1) (P := (s_t1 pl σ).2.1) (P1 := (s_t1 pl σ).2.2) (tb := pl.2.2.1) (cr := fun k => pl.2.1 (4 + k)) (l0 := pl.2.2.2.2.2.2.2) (by decide) (m_sd_fr hA1 (fun j hj => by unfold m_rg at hj; exact hC3 j (by unfold m_rg; omega))) hC1 (fun k hk => ⟨(hpl.1 (4 + k) (by omega)).2.2.2.1, (hpl.1 (4 + k) (by omega)).2.2.2.2⟩) hpl.2.1 ((hC3 0 (by unfold m_rg; omega)).trans ((hA3 0 (by unfold m_rg; omega)).trans hu0)) (by omega) (s_wkp_q htk.2.2.1 (by omega)) hpl.2.2.2.2.2.2.2.2.1 hpl.2.2.2.2.2.2.2.2.2.1 hpl.2.2.2.2.2.2.2.2.2.2.1 hpl.2.2.2.2.2.2.2.2.2.2.2 (hB.1.at (j := 0) rfl)) rfl (by decide) hB rfl rfl rfl rfl (bz_le rfl) (by decide) (by decide) (fun r g1 hQ => ?_)
  obtain ⟨rfl, N3, F3, v3, h1, hD1, hD2, hD3⟩ := hQ
  have hB := hB.sp (j := 0) rfl 0 rfl h1 (bz_le rfl)
  refine g_aload_n (q := 31) dX9_ticks_30 rfl rfl ?_
  refine g_iconst (q := 32) (v := (nI 1)) dX9_ticks_31 rfl (by decide) ?_
  refine gb_callV (q := 35) (j := 0) (i := 0) dX9_ticks_32 rfl kv_X9_302 (c_mforwards (I := va_up I 24 (if (s_f0 pl (s_t1 pl σ)).1 then nI 1 else (if s_mvd σ.2.2 (s_t1 pl σ).2.2 then nI 1 else (if s_mvd σ.2.1 (s_t1 pl σ).2.1 then nI 1 else nI 0)))) (A := (va_up (va_up (va_up A 11 F3) 10 v3) 1 N3)) (s := 1) (now := σ.1 + 1) (P := (s_f0 pl (s_t1 pl σ)).2.2.2) (P1 := (s_f0 pl (s_t1 pl σ)).2.2.1) (tb := pl.2.2.1) (cr := fun k => pl.2.1 (0 + k)) (l0 := pl.2.2.2.2.2.2.1) (by decide) hD2 hD1 (fun k hk => ⟨(hpl.1 (0 + k) (by omega)).2.2.2.1, (hpl.1 (0 + k) (by omega)).2.2.2.2⟩) hpl.2.1 hD3 (by omega) (by rw [show (s_f0 pl (s_t1 pl σ)).2.2.2.1 = (s_t1 pl σ).2.2.1 from s_fwd_q.2]; exact s_wkp_q htk.2.2.2.1 (by omega)) hpl.2.2.2.2.2.2.2.1.1 hpl.2.2.2.2.2.2.2.1.2.1 hpl.2.2.2.2.2.2.2.1.2.2.1 hpl.2.2.2.2.2.2.2.1.2.2.2 (hB.1.at (j := 0) rfl)) rfl (by decide) hB rfl rfl rfl rfl (bz_le rfl) (by decide) (by decide) (fun r g1 hQ => ?_)
  obtain ⟨rfl, N4, F4, v4, h1, hE1, hE2, hE3⟩ := hQ
  have hB := hB.sp (j := 0) rfl 0 rfl h1 (bz_le rfl)
  exact g_vret dX9_ticks_35 rfl (⟨rfl, N4, F4, v4, by rw [hmv]; exact hB, hE3, hE2, hE1⟩)
