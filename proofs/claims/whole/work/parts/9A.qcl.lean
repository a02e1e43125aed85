/-! the reference: the draft cleared, lifted; a beginning -/
def v_fg (f : Nat → Int32) (m : Nat) (h : Nat → Int32) (i : Nat) : Nat → Int32 := fun k => if m ≤ k ∧ k < m + i then h (k - m) else f k
theorem v_fg_0 {f : Nat → Int32} {m : Nat} {h : Nat → Int32} : v_fg f m h 0 = f := funext fun k => if_neg (by omega)
theorem v_fg_s {f : Nat → Int32} {m i : Nat} {h : Nat → Int32} : upd (v_fg f m h i) (m + i) (h i) = v_fg f m h (i + 1) := funext fun k => by
  by_cases e : k = m + i
  · subst e
    rw [upd_eq]
    unfold v_fg
    rw [if_pos (by omega), show m + i - m = i by omega]
  · rw [upd_ne e]
    unfold v_fg
    by_cases c : m ≤ k ∧ k < m + i
    · rw [if_pos c, if_pos (by omega)]
    · rw [if_neg c, if_neg (by omega)]
theorem v_fg_in {f : Nat → Int32} {m i k : Nat} {h : Nat → Int32} (hk : k < i) : v_fg f m h i (m + k) = h k := by
  unfold v_fg
  rw [if_pos (by omega), show m + k - m = k by omega]
theorem v_fg_out {f : Nat → Int32} {m i k : Nat} {h : Nat → Int32} (hk : k < m ∨ m + i ≤ k) : v_fg f m h i k = f k := if_neg (by omega)
def v_li (f : Nat → Int32) (h i : Nat) : Nat → Int32 := fun k => if k < i then f (h + k) else f k
theorem v_li_s {f : Nat → Int32} {h i : Nat} (hi : i < h) : upd (v_li f h i) i (v_li f h i (h + i)) = v_li f h (i + 1) := funext fun k => by
  by_cases e : k = i
  · subst e
    rw [upd_eq]
    unfold v_li
    rw [if_neg (by omega), if_pos (by omega)]
  · rw [upd_ne e]
    unfold v_li
    by_cases c : k < i
    · rw [if_pos c, if_pos (by omega)]
    · rw [if_neg c, if_neg (by omega)]
theorem i16_div : ∀ i, i < 16 → nI i / nI 4 = nI (i / 4) := by decide +kernel
theorem i16_rem : ∀ i, i < 16 → nI i - nI i / nI 4 * nI 4 = nI (i % 4) := by decide +kernel
def q_pa (a c : Nat) : Nat := if c = 1 ∨ c = 2 then 1 else if c = 3 ∧ (a = 0 ∨ a = 3) then 1 else 0
theorem q_pa_d : ∀ i, i < 16 → q_pa (i / 4) (i % 4) = d_tb i := by decide +kernel
set_option maxRecDepth 20000 in
set_option maxHeartbeats 1000000 in
theorem c_mpassesAlways {l : Launch} {E : bz_E} {L : List Nat} {g : Nat → va_E} {a c : Nat} (ha : a < 4) (hc : c < 4) : bz_K l E mX9_passesAlways 0 [.int (nI a), .int (nI c)] L g (fun r g1 => r = some (.int (nI (q_pa a c))) ∧ g1 = g) := by
  refine bz_K.of (by decide) (bz_le rfl) (fun sz => ?_)
  show bz_G _ _ _ _ _ _ _ _ _ _ _ _ 0 [(0, .int (nI a)), (1, .int (nI c))] []
  refine g_iload_n (q := 1) dX9_passesAlways_0 rfl rfl ?_
  refine g_iconst (q := 2) (v := (nI 1)) dX9_passesAlways_1 rfl (by decide) ?_
  refine g_icmpN_eq (q := 5) (t := 10) dX9_passesAlways_2 rfl (by decide) (by omega) (by omega) (fun c_2 => ?_) (fun c_2 => ?_)
  · refine g_iconst (q := 11) (v := (nI 1)) dX9_passesAlways_10 rfl (by decide) ?_
    refine g_goto (q := 15) dX9_passesAlways_11 (by decide) ?_
    refine g_istore_n (q := 16) rfl dX9_passesAlways_15 rfl (by decide) rfl ?_
    refine g_iload_n (q := 17) dX9_passesAlways_16 rfl rfl ?_
    refine g_ifN_ne (q := 20) (t := 34) dX9_passesAlways_17 rfl (by decide) (by omega) (fun _ => ?_) (fun c => absurd c (by omega))
    refine g_iconst (q := 35) (v := (nI 1)) dX9_passesAlways_34 rfl (by decide) ?_
    refine g_goto (q := 39) dX9_passesAlways_35 (by decide) ?_
    exact g_zret dX9_passesAlways_39 rfl rfl ⟨by unfold q_pa; first | rw [if_pos (by omega)] | (rw [if_neg (by omega)]; first | rw [if_pos (by omega)] | rw [if_neg (by omega)]), rfl⟩
  · refine g_iload_n (q := 6) dX9_passesAlways_5 rfl rfl ?_
    refine g_iconst (q := 7) (v := (nI 2)) dX9_passesAlways_6 rfl (by decide) ?_
    refine g_icmpN_ne (q := 10) (t := 14) dX9_passesAlways_7 rfl (by decide) (by omega) (by omega) (fun c_7 => ?_) (fun c_7 => ?_)
    · refine g_iconst (q := 15) (v := (nI 0)) dX9_passesAlways_14 rfl (by decide) ?_
      refine g_istore_n (q := 16) rfl dX9_passesAlways_15 rfl (by decide) rfl ?_
      refine g_iload_n (q := 17) dX9_passesAlways_16 rfl rfl ?_
      refine g_ifN_ne (q := 20) (t := 34) dX9_passesAlways_17 rfl (by decide) (by omega) (fun c => absurd c (by omega)) (fun _ => ?_)
      refine g_iload_n (q := 21) dX9_passesAlways_20 rfl rfl ?_
      refine g_iconst (q := 22) (v := (nI 3)) dX9_passesAlways_21 rfl (by decide) ?_
      refine g_icmpN_ne (q := 25) (t := 38) dX9_passesAlways_22 rfl (by decide) (by omega) (by omega) (fun c_22 => ?_) (fun c_22 => ?_)
      · refine g_iconst (q := 39) (v := (nI 0)) dX9_passesAlways_38 rfl (by decide) ?_
        exact g_zret dX9_passesAlways_39 rfl rfl ⟨by unfold q_pa; first | rw [if_pos (by omega)] | (rw [if_neg (by omega)]; first | rw [if_pos (by omega)] | rw [if_neg (by omega)]), rfl⟩
      · refine g_iload_n (q := 26) dX9_passesAlways_25 rfl rfl ?_
        refine g_ifN_eq (q := 29) (t := 34) dX9_passesAlways_26 rfl (by decide) (by omega) (fun c_26 => ?_) (fun c_26 => ?_)
        · refine g_iconst (q := 35) (v := (nI 1)) dX9_passesAlways_34 rfl (by decide) ?_
          refine g_goto (q := 39) dX9_passesAlways_35 (by decide) ?_
          exact g_zret dX9_passesAlways_39 rfl rfl ⟨by unfold q_pa; first | rw [if_pos (by omega)] | (rw [if_neg (by omega)]; first | rw [if_pos (by omega)] | rw [if_neg (by omega)]), rfl⟩
        · refine g_iload_n (q := 30) dX9_passesAlways_29 rfl rfl ?_
          refine g_iconst (q := 31) (v := (nI 3)) dX9_passesAlways_30 rfl (by decide) ?_
          refine g_icmpN_ne (q := 34) (t := 38) dX9_passesAlways_31 rfl (by decide) (by omega) (by omega) (fun c_31 => ?_) (fun c_31 => ?_)
          · refine g_iconst (q := 39) (v := (nI 0)) dX9_passesAlways_38 rfl (by decide) ?_
            exact g_zret dX9_passesAlways_39 rfl rfl ⟨by unfold q_pa; first | rw [if_pos (by omega)] | (rw [if_neg (by omega)]; first | rw [if_pos (by omega)] | rw [if_neg (by omega)]), rfl⟩
          · refine g_iconst (q := 35) (v := (nI 1)) dX9_passesAlways_34 rfl (by decide) ?_
            refine g_goto (q := 39) dX9_passesAlways_35 (by decide) ?_
            exact g_zret dX9_passesAlways_39 rfl rfl ⟨by unfold q_pa; first | rw [if_pos (by omega)] | (rw [if_neg (by omega)]; first | rw [if_pos (by omega)] | rw [if_neg (by omega)]), rfl⟩
    · refine g_iconst (q := 11) (v := (nI 1)) dX9_passesAlways_10 rfl (by decide) ?_
      refine g_goto (q := 15) dX9_passesAlways_11 (by decide) ?_
      refine g_istore_n (q := 16) rfl dX9_passesAlways_15 rfl (by decide) rfl ?_
      refine g_iload_n (q := 17) dX9_passesAlways_16 rfl rfl ?_
      refine g_ifN_ne (q := 20) (t := 34) dX9_passesAlways_17 rfl (by decide) (by omega) (fun _ => ?_) (fun c => absurd c (by omega))
      refine g_iconst (q := 35) (v := (nI 1)) dX9_passesAlways_34 rfl (by decide) ?_
      refine g_goto (q := 39) dX9_passesAlways_35 (by decide) ?_
      exact g_zret dX9_passesAlways_39 rfl rfl ⟨by unfold q_pa; first | rw [if_pos (by omega)] | (rw [if_neg (by omega)]; first | rw [if_pos (by omega)] | rw [if_neg (by omega)]), rfl⟩
def q_cd (A : Nat → Nat → Int32) : Nat → Nat → Int32 := (va_up (va_up (va_up (va_up (va_up A 2 (v_fg (A 2) 8 (fun _ => nI 4) 8)) 3 (v_fg (A 3) 8 (fun _ => nI 2) 8)) 4 (v_fg (A 4) 16 (fun k => nI (d_tb k)) 16)) 5 (v_fg (A 5) 32 (fun _ => nI 0) 32)) 6 (upd (upd (A 6) 2 (nI 2)) 3 (nI 4)))
def q_c0 (A : Nat → Nat → Int32) (a : Nat) : Nat → Nat → Int32 := q_em (va_up A 7 (upd (A 7) (2 + a) (nI 0))) a 0 (nI 101)
theorem q_c0_fE {A : Nat → Nat → Int32} {a : Nat} : q_fE a A (q_c0 A a) := q_fE.u7.tr (q_fE.em (by decide))
theorem q_c0_ex {A : Nat → Nat → Int32} {a : Nat} : q_ex (q_c0 A a) a [nI 1] := by
  have h := (q_ex0 (A := A) (a := a)).em (y := nI 1)
  rw [m_cd_n (by decide)] at h
  exact h
theorem q_cd_dr {A : Nat → Nat → Int32} : q_dr (q_c0 (q_c0 (q_cd A) 0) 1) d_0 := by
  have e : ∀ i, i ≠ 7 → i ≠ 8 → q_c0 (q_c0 (q_cd A) 0) 1 i = q_cd A i := fun i h7 h8 => (q_c0_fE.1 i h7 h8).trans (q_c0_fE.1 i h7 h8)
  refine ⟨fun k hk => ?_, fun k hk => ?_, fun k hk => ?_, fun k hk => ?_, ?_, ?_, ?_, q_c0_ex⟩
  · rw [e 2 (by decide) (by decide)]; exact (show v_fg (A 2) 8 (fun _ => nI 4) 8 (8 + k) = nI 4 from v_fg_in hk)
  · rw [e 3 (by decide) (by decide)]; exact (show v_fg (A 3) 8 (fun _ => nI 2) 8 (8 + k) = nI 2 from v_fg_in hk)
  · rw [e 4 (by decide) (by decide)]; exact (show v_fg (A 4) 16 (fun k => nI (d_tb k)) 16 (16 + k) = nI (d_tb k) from v_fg_in hk)
  · rw [e 5 (by decide) (by decide)]; exact (show v_fg (A 5) 32 (fun _ => nI 0) 32 (32 + k) = nI 0 from v_fg_in hk)
  · rw [e 6 (by decide) (by decide)]; exact (show upd (upd (A 6) 2 (nI 2)) 3 (nI 4) 2 = upd (A 6) 2 (nI 2) 2 from upd_ne (by decide)).trans upd_eq
  · rw [e 6 (by decide) (by decide)]; exact (show upd (upd (A 6) 2 (nI 2)) 3 (nI 4) 3 = nI 4 from upd_eq)
  · exact q_ex.fr q_c0_fE (by decide) (by decide) q_c0_ex
theorem q_cd_fA {A : Nat → Nat → Int32} : q_fA A (q_c0 (q_c0 (q_cd A) 0) 1) := by
  refine q_fA.tr (A1 := q_cd A) ⟨fun i hi => ?_, fun k hk => ⟨(show v_fg (A 2) 8 (fun _ => nI 4) 8 k = A 2 k from v_fg_out (by omega)), (show v_fg (A 3) 8 (fun _ => nI 2) 8 k = A 3 k from v_fg_out (by omega))⟩, fun k hk => (show v_fg (A 4) 16 (fun k => nI (d_tb k)) 16 k = A 4 k from v_fg_out (by omega)), fun k hk => (show v_fg (A 5) 32 (fun _ => nI 0) 32 k = A 5 k from v_fg_out (by omega)), fun k hk => ⟨?_, rfl⟩, fun _ _ => rfl⟩ ((q_fA.fE (by decide) q_c0_fE).tr (q_fA.fE (by decide) q_c0_fE))
  · unfold q_cd
    rw [vaA_ne (by omega), vaA_ne (by omega), vaA_ne (by omega), vaA_ne (by omega), vaA_ne (by omega)]
  · show upd (upd (A 6) 2 (nI 2)) 3 (nI 4) k = A 6 k
    rw [upd_ne (by omega), upd_ne (by omega)]
theorem d_tb_le (k : Nat) : d_tb k ≤ 1 := by unfold d_tb; split <;> decide
set_option maxRecDepth 20000 in
set_option maxHeartbeats 1000000 in
theorem c_mclearDraft {l : Launch} {E : bz_E} {L : List Nat} {g : Nat → va_E} {o : Nat} {I : Nat → Int32} {A : Nat → Nat → Int32} (hH : bz_H L g o (b_Mod E o I A)) : bz_K l E mX9_clearDraft 1 [.ref o] L g (fun r g1 => r = none ∧ bz_B L g g1 [(o, b_Mod E o (va_up I 20 (nI 2)) (q_c0 (q_c0 (q_cd A) 0) 1))]) := by
  refine bz_K.of (by decide) (bz_le rfl) (fun sz => ?_)
  show bz_G _ _ _ _ _ _ _ _ _ _ _ _ 0 [(0, .ref o)] []
  have hB := bz_B.rf (bz_W.one hH)
  have K2 : ∀ g1 : Nat → va_E, bz_B L g g1 [(o, b_Mod E o (va_up I 20 (nI 2)) (q_c0 (q_c0 (q_cd A) 0) 1))] → bz_G l E mX9_clearDraft (bz_R 1 0 0) L sz (bz_Fm E L sz (fun r g1 => r = none ∧ bz_B L g g1 [(o, b_Mod E o (va_up I 20 (nI 2)) (q_c0 (q_c0 (q_cd A) 0) 1))])) sz 0 0 L g1 117 [(0, .ref o)] [] := by
    intro g2 hB
    refine g_aload_n (q := 118) dX9_clearDraft_117 rfl rfl ?_
    refine gb_getf (q := 121) (j := 0) (i := 0) dX9_clearDraft_118 rfl fl_X9_81 hB rfl rfl rfl rfl ?_
    refine g_eqi (v := nI (2)) (rfl) ?_
    refine g_iconst (q := 122) (v := (nI 2)) dX9_clearDraft_121 rfl (by decide) ?_
    refine g_icmpN_ge (q := 125) (t := 157) dX9_clearDraft_122 rfl (by decide) (by omega) (by omega) (fun _ => ?_) (fun c => absurd c (by omega))
    exact g_vret dX9_clearDraft_157 rfl (⟨rfl, hB⟩)
  have K1 : ∀ g1 : Nat → va_E, bz_B L g g1 [(o, b_Mod E o (va_up I 20 (nI 1)) (q_c0 (q_cd A) 0))] → bz_G l E mX9_clearDraft (bz_R 1 0 0) L sz (bz_Fm E L sz (fun r g1 => r = none ∧ bz_B L g g1 [(o, b_Mod E o (va_up I 20 (nI 2)) (q_c0 (q_c0 (q_cd A) 0) 1))])) sz 0 0 L g1 117 [(0, .ref o)] [] := by
    intro g2 hB
    refine g_aload_n (q := 118) dX9_clearDraft_117 rfl rfl ?_
    refine gb_getf (q := 121) (j := 0) (i := 0) dX9_clearDraft_118 rfl fl_X9_81 hB rfl rfl rfl rfl ?_
    refine g_eqi (v := nI (1)) (rfl) ?_
    refine g_iconst (q := 122) (v := (nI 2)) dX9_clearDraft_121 rfl (by decide) ?_
    refine g_icmpN_ge (q := 125) (t := 157) dX9_clearDraft_122 rfl (by decide) (by omega) (by omega) (fun c => absurd c (by omega)) (fun _ => ?_)
    refine g_aload_n (q := 126) dX9_clearDraft_125 rfl rfl ?_
    refine gb_getf (q := 129) (j := 0) (i := 0) dX9_clearDraft_126 rfl fl_X9_28 hB rfl rfl rfl rfl ?_
    refine g_iconst (q := 130) (v := (nI 2)) dX9_clearDraft_129 rfl (by decide) ?_
    refine g_aload_n (q := 131) dX9_clearDraft_130 rfl rfl ?_
    refine gb_getf (q := 134) (j := 0) (i := 0) dX9_clearDraft_131 rfl fl_X9_81 hB rfl rfl rfl rfl ?_
    refine g_eqi (v := nI (1)) (rfl) ?_
    refine g_iaddN (q := 135) dX9_clearDraft_134 rfl ?_
    refine g_iconst (q := 136) (v := (nI 0)) dX9_clearDraft_135 rfl (by decide) ?_
    refine gb_iastN (q := 137) (j := 0) (i := 7) dX9_clearDraft_136 rfl hB rfl rfl rfl (by decide) (by decide) (fun g hB => ?_)
    refine g_aload_n (q := 138) dX9_clearDraft_137 rfl rfl ?_
    refine g_bipush (q := 140) (v := (nI 101)) dX9_clearDraft_138 rfl (by decide) ?_
    refine gb_callV (q := 143) (j := 0) (i := 0) dX9_clearDraft_140 rfl kv_X9_84 (c_memit (I := va_up I 20 (nI 1)) (A := va_up (q_c0 (q_cd A) 0) 7 (upd ((q_c0 (q_cd A) 0) 7) (2 + 1) (nI 0))) (a := 1) (m := 0) (c := nI 101) (by decide) (by decide) rfl (show upd ((q_c0 (q_cd A) 0) 7) (2 + 1) (nI 0) (2 + 1) = nI 0 from upd_eq) (hB.1.at (j := 0) rfl)) rfl (by decide) hB rfl rfl rfl rfl (bz_le rfl) (by decide) (by decide) (fun r g1 hQ => ?_)
    obtain ⟨rfl, h1⟩ := hQ
    have hB := hB.sp (j := 0) rfl 0 rfl h1 (bz_le rfl)
    refine g_pop (q := 144) dX9_clearDraft_143 rfl rfl ?_
    refine g_aload_n (q := 145) dX9_clearDraft_144 rfl rfl ?_
    refine g_dup (q := 146) dX9_clearDraft_145 rfl rfl ?_
    refine gb_getf (q := 149) (j := 0) (i := 0) dX9_clearDraft_146 rfl fl_X9_81 hB rfl rfl rfl rfl ?_
    refine g_eqi (v := nI (1)) (rfl) ?_
    refine g_iconst (q := 150) (v := (nI 1)) dX9_clearDraft_149 rfl (by decide) ?_
    refine g_iaddN (q := 151) dX9_clearDraft_150 rfl ?_
    refine gb_putf (q := 154) (j := 0) (i := 0) dX9_clearDraft_151 rfl fp_X9_81 hB rfl rfl rfl (bz_le rfl) rfl rfl (fun g hB => ?_)
    refine g_goto (q := 117) dX9_clearDraft_154 (by decide) ?_
    exact K2 _ hB
  have K0 : ∀ g1 : Nat → va_E, bz_B L g g1 [(o, b_Mod E o (va_up I 20 (nI 0)) (q_cd A))] → bz_G l E mX9_clearDraft (bz_R 1 0 0) L sz (bz_Fm E L sz (fun r g1 => r = none ∧ bz_B L g g1 [(o, b_Mod E o (va_up I 20 (nI 2)) (q_c0 (q_c0 (q_cd A) 0) 1))])) sz 0 0 L g1 117 [(0, .ref o)] [] := by
    intro g2 hB
    refine g_aload_n (q := 118) dX9_clearDraft_117 rfl rfl ?_
    refine gb_getf (q := 121) (j := 0) (i := 0) dX9_clearDraft_118 rfl fl_X9_81 hB rfl rfl rfl rfl ?_
    refine g_eqi (v := nI (0)) (rfl) ?_
    refine g_iconst (q := 122) (v := (nI 2)) dX9_clearDraft_121 rfl (by decide) ?_
    refine g_icmpN_ge (q := 125) (t := 157) dX9_clearDraft_122 rfl (by decide) (by omega) (by omega) (fun c => absurd c (by omega)) (fun _ => ?_)
    refine g_aload_n (q := 126) dX9_clearDraft_125 rfl rfl ?_
    refine gb_getf (q := 129) (j := 0) (i := 0) dX9_clearDraft_126 rfl fl_X9_28 hB rfl rfl rfl rfl ?_
    refine g_iconst (q := 130) (v := (nI 2)) dX9_clearDraft_129 rfl (by decide) ?_
    refine g_aload_n (q := 131) dX9_clearDraft_130 rfl rfl ?_
    refine gb_getf (q := 134) (j := 0) (i := 0) dX9_clearDraft_131 rfl fl_X9_81 hB rfl rfl rfl rfl ?_
    refine g_eqi (v := nI (0)) (rfl) ?_
    refine g_iaddN (q := 135) dX9_clearDraft_134 rfl ?_
    refine g_iconst (q := 136) (v := (nI 0)) dX9_clearDraft_135 rfl (by decide) ?_
    refine gb_iastN (q := 137) (j := 0) (i := 7) dX9_clearDraft_136 rfl hB rfl rfl rfl (by decide) (by decide) (fun g hB => ?_)
    refine g_aload_n (q := 138) dX9_clearDraft_137 rfl rfl ?_
    refine g_bipush (q := 140) (v := (nI 101)) dX9_clearDraft_138 rfl (by decide) ?_
    refine gb_callV (q := 143) (j := 0) (i := 0) dX9_clearDraft_140 rfl kv_X9_84 (c_memit (I := va_up I 20 (nI 0)) (A := va_up (q_cd A) 7 (upd ((q_cd A) 7) (2 + 0) (nI 0))) (a := 0) (m := 0) (c := nI 101) (by decide) (by decide) rfl (show upd ((q_cd A) 7) (2 + 0) (nI 0) (2 + 0) = nI 0 from upd_eq) (hB.1.at (j := 0) rfl)) rfl (by decide) hB rfl rfl rfl rfl (bz_le rfl) (by decide) (by decide) (fun r g1 hQ => ?_)
    obtain ⟨rfl, h1⟩ := hQ
    have hB := hB.sp (j := 0) rfl 0 rfl h1 (bz_le rfl)
    refine g_pop (q := 144) dX9_clearDraft_143 rfl rfl ?_
    refine g_aload_n (q := 145) dX9_clearDraft_144 rfl rfl ?_
    refine g_dup (q := 146) dX9_clearDraft_145 rfl rfl ?_
    refine gb_getf (q := 149) (j := 0) (i := 0) dX9_clearDraft_146 rfl fl_X9_81 hB rfl rfl rfl rfl ?_
    refine g_eqi (v := nI (0)) (rfl) ?_
    refine g_iconst (q := 150) (v := (nI 1)) dX9_clearDraft_149 rfl (by decide) ?_
    refine g_iaddN (q := 151) dX9_clearDraft_150 rfl ?_
    refine gb_putf (q := 154) (j := 0) (i := 0) dX9_clearDraft_151 rfl fp_X9_81 hB rfl rfl rfl (bz_le rfl) rfl rfl (fun g hB => ?_)
    refine g_goto (q := 117) dX9_clearDraft_154 (by decide) ?_
    exact K1 _ hB
  have K98 : ∀ g1 : Nat → va_E, bz_B L g g1 [(o, b_Mod E o I (va_up (va_up (va_up (va_up A 2 (v_fg (A 2) 8 (fun _ => nI 4) 8)) 3 (v_fg (A 3) 8 (fun _ => nI 2) 8)) 4 (v_fg (A 4) 16 (fun k => nI (d_tb k)) 16)) 5 (v_fg (A 5) 32 (fun _ => nI 0) 32)))] → bz_G l E mX9_clearDraft (bz_R 1 0 0) L sz (bz_Fm E L sz (fun r g1 => r = none ∧ bz_B L g g1 [(o, b_Mod E o (va_up I 20 (nI 2)) (q_c0 (q_c0 (q_cd A) 0) 1))])) sz 0 0 L g1 98 [(0, .ref o)] [] := by
    intro g2 hB
    refine g_aload_n (q := 99) dX9_clearDraft_98 rfl rfl ?_
    refine gb_getf (q := 102) (j := 0) (i := 0) dX9_clearDraft_99 rfl fl_X9_25 hB rfl rfl rfl rfl ?_
    refine g_iconst (q := 103) (v := (nI 2)) dX9_clearDraft_102 rfl (by decide) ?_
    refine g_iconst (q := 104) (v := (nI 2)) dX9_clearDraft_103 rfl (by decide) ?_
    refine gb_iastN (q := 105) (j := 0) (i := 6) dX9_clearDraft_104 rfl hB rfl rfl rfl (by decide) (by decide) (fun g hB => ?_)
    refine g_aload_n (q := 106) dX9_clearDraft_105 rfl rfl ?_
    refine gb_getf (q := 109) (j := 0) (i := 0) dX9_clearDraft_106 rfl fl_X9_25 hB rfl rfl rfl rfl ?_
    refine g_iconst (q := 110) (v := (nI 3)) dX9_clearDraft_109 rfl (by decide) ?_
    refine g_iconst (q := 111) (v := (nI 4)) dX9_clearDraft_110 rfl (by decide) ?_
    refine gb_iastN (q := 112) (j := 0) (i := 6) dX9_clearDraft_111 rfl hB rfl rfl rfl (by decide) (by decide) (fun g hB => ?_)
    refine g_aload_n (q := 113) dX9_clearDraft_112 rfl rfl ?_
    refine g_iconst (q := 114) (v := (nI 0)) dX9_clearDraft_113 rfl (by decide) ?_
    refine gb_putf (q := 117) (j := 0) (i := 0) dX9_clearDraft_114 rfl fp_X9_81 hB rfl rfl rfl (bz_le rfl) rfl rfl (fun g hB => ?_)
    exact K0 _ hB
  have L3 : ∀ (m i : Nat) (g1 : Nat → va_E), i + m = 32 → bz_B L g g1 [(o, b_Mod E o I (va_up (va_up (va_up (va_up A 2 (v_fg (A 2) 8 (fun _ => nI 4) 8)) 3 (v_fg (A 3) 8 (fun _ => nI 2) 8)) 4 (v_fg (A 4) 16 (fun k => nI (d_tb k)) 16)) 5 (v_fg (A 5) 32 (fun _ => nI 0) i)))] → bz_G l E mX9_clearDraft (bz_R 1 0 0) L sz (bz_Fm E L sz (fun r g1 => r = none ∧ bz_B L g g1 [(o, b_Mod E o (va_up I 20 (nI 2)) (q_c0 (q_c0 (q_cd A) 0) 1))])) sz 0 0 L g1 76 [(1, .int (nI i)), (0, .ref o)] [] := by
    intro m
    induction m with
    | zero =>
      intro i g2 hm hB
      refine g_iload_n (q := 77) dX9_clearDraft_76 rfl rfl ?_
      refine g_bipush (q := 79) (v := (nI 32)) dX9_clearDraft_77 rfl (by decide) ?_
      refine g_icmpN_ge (q := 82) (t := 98) dX9_clearDraft_79 rfl (by decide) (by omega) (by omega) (fun _ => ?_) (fun c => absurd c (by omega))
      refine g_lvs (lv1 := [(0, .ref o)]) ⟨rfl, trivial⟩ ?_
      have hi8 : i = 32 := by omega
      subst hi8
      exact K98 _ hB
    | succ m ih =>
      intro i g2 hm hB
      refine g_iload_n (q := 77) dX9_clearDraft_76 rfl rfl ?_
      refine g_bipush (q := 79) (v := (nI 32)) dX9_clearDraft_77 rfl (by decide) ?_
      refine g_icmpN_ge (q := 82) (t := 98) dX9_clearDraft_79 rfl (by decide) (by omega) (by omega) (fun c_79 => ?_) (fun c_79 => ?_)
      · refine g_lvs (lv1 := [(0, .ref o)]) ⟨rfl, trivial⟩ ?_
        have hi8 : i = 32 := by omega
        subst hi8
        exact K98 _ hB
      · refine g_aload_n (q := 83) dX9_clearDraft_82 rfl rfl ?_
        refine gb_getf (q := 86) (j := 0) (i := 0) dX9_clearDraft_83 rfl fl_X9_22 hB rfl rfl rfl rfl ?_
        refine g_bipush (q := 88) (v := (nI 32)) dX9_clearDraft_86 rfl (by decide) ?_
        refine g_iload_n (q := 89) dX9_clearDraft_88 rfl rfl ?_
        refine g_iaddN (q := 90) dX9_clearDraft_89 rfl ?_
        refine g_iconst (q := 91) (v := (nI 0)) dX9_clearDraft_90 rfl (by decide) ?_
        refine gb_iastN (q := 92) (j := 0) (i := 5) dX9_clearDraft_91 rfl hB rfl rfl rfl (by omega) (by decide) (fun g hB => ?_)
        refine g_iincN (q := 95) (c := 1) dX9_clearDraft_92 rfl (by decide) rfl rfl (by decide) ?_
        refine g_goto (q := 76) dX9_clearDraft_95 (by decide) ?_
        refine g_lvs (lv1 := [(1, .int (nI (i + 1))), (0, .ref o)]) ⟨rfl, rfl, trivial⟩ ?_
        exact ih (i + 1) _ (by omega) (by rw [← v_fg_s (f := A 5)]; exact hB)
  have K74 : ∀ g1 : Nat → va_E, bz_B L g g1 [(o, b_Mod E o I (va_up (va_up (va_up A 2 (v_fg (A 2) 8 (fun _ => nI 4) 8)) 3 (v_fg (A 3) 8 (fun _ => nI 2) 8)) 4 (v_fg (A 4) 16 (fun k => nI (d_tb k)) 16)))] → bz_G l E mX9_clearDraft (bz_R 1 0 0) L sz (bz_Fm E L sz (fun r g1 => r = none ∧ bz_B L g g1 [(o, b_Mod E o (va_up I 20 (nI 2)) (q_c0 (q_c0 (q_cd A) 0) 1))])) sz 0 0 L g1 74 [(0, .ref o)] [] := by
    intro g2 hB
    refine g_iconst (q := 75) (v := (nI 0)) dX9_clearDraft_74 rfl (by decide) ?_
    refine g_istore_n (q := 76) rfl dX9_clearDraft_75 rfl (by decide) rfl ?_
    refine g_lvs (lv1 := [(1, .int (nI 0)), (0, .ref o)]) ⟨rfl, rfl, trivial⟩ ?_
    exact L3 32 0 _ rfl (by rw [v_fg_0]; exact hB)
  have L2 : ∀ (m i : Nat) (g1 : Nat → va_E), i + m = 16 → bz_B L g g1 [(o, b_Mod E o I (va_up (va_up (va_up A 2 (v_fg (A 2) 8 (fun _ => nI 4) 8)) 3 (v_fg (A 3) 8 (fun _ => nI 2) 8)) 4 (v_fg (A 4) 16 (fun k => nI (d_tb k)) i)))] → bz_G l E mX9_clearDraft (bz_R 1 0 0) L sz (bz_Fm E L sz (fun r g1 => r = none ∧ bz_B L g g1 [(o, b_Mod E o (va_up I 20 (nI 2)) (q_c0 (q_c0 (q_cd A) 0) 1))])) sz 0 0 L g1 36 [(1, .int (nI i)), (0, .ref o)] [] := by
    intro m
    induction m with
    | zero =>
      intro i g2 hm hB
      refine g_iload_n (q := 37) dX9_clearDraft_36 rfl rfl ?_
      refine g_bipush (q := 39) (v := (nI 16)) dX9_clearDraft_37 rfl (by decide) ?_
      refine g_icmpN_ge (q := 42) (t := 74) dX9_clearDraft_39 rfl (by decide) (by omega) (by omega) (fun _ => ?_) (fun c => absurd c (by omega))
      refine g_lvs (lv1 := [(0, .ref o)]) ⟨rfl, trivial⟩ ?_
      have hi8 : i = 16 := by omega
      subst hi8
      exact K74 _ hB
    | succ m ih =>
      intro i g2 hm hB
      refine g_iload_n (q := 37) dX9_clearDraft_36 rfl rfl ?_
      refine g_bipush (q := 39) (v := (nI 16)) dX9_clearDraft_37 rfl (by decide) ?_
      refine g_icmpN_ge (q := 42) (t := 74) dX9_clearDraft_39 rfl (by decide) (by omega) (by omega) (fun c_39 => ?_) (fun c_39 => ?_)
      · refine g_lvs (lv1 := [(0, .ref o)]) ⟨rfl, trivial⟩ ?_
        have hi8 : i = 16 := by omega
        subst hi8
        exact K74 _ hB
      · refine g_aload_n (q := 43) dX9_clearDraft_42 rfl rfl ?_
        refine gb_getf (q := 46) (j := 0) (i := 0) dX9_clearDraft_43 rfl fl_X9_19 hB rfl rfl rfl rfl ?_
        refine g_bipush (q := 48) (v := (nI 16)) dX9_clearDraft_46 rfl (by decide) ?_
        refine g_iload_n (q := 49) dX9_clearDraft_48 rfl rfl ?_
        refine g_iaddN (q := 50) dX9_clearDraft_49 rfl ?_
        refine g_iload_n (q := 51) dX9_clearDraft_50 rfl rfl ?_
        refine g_iconst (q := 52) (v := (nI 4)) dX9_clearDraft_51 rfl (by decide) ?_
        refine g_idiv (q := 53) dX9_clearDraft_52 rfl (by decide) ?_
        refine g_eqi (v := nI (i / 4)) (i16_div i (by omega)) ?_
        refine g_iload_n (q := 54) dX9_clearDraft_53 rfl rfl ?_
        refine g_iconst (q := 55) (v := (nI 4)) dX9_clearDraft_54 rfl (by decide) ?_
        refine g_irem (q := 56) dX9_clearDraft_55 rfl (by decide) ?_
        refine g_eqi (v := nI (i % 4)) (i16_rem i (by omega)) ?_
        refine g_callS (q := 59) dX9_clearDraft_56 rfl ks_X9_77 rfl (c_mpassesAlways (a := i / 4) (c := i % 4) (by omega) (by omega)) (by decide) rfl (bz_le rfl) (by decide) (by decide) (fun r g1 hQ => ?_)
        obtain ⟨rfl, hg⟩ := hQ
        have hg := hg.symm
        subst hg
        refine g_eqi (v := nI (d_tb i)) (by rw [q_pa_d i (by omega)]) ?_
        refine g_ifN_eq (q := 62) (t := 66) dX9_clearDraft_59 rfl (by decide) (by have := d_tb_le i; omega) (fun c_59 => ?_) (fun c_59 => ?_)
        · refine g_iconst (q := 67) (v := (nI 0)) dX9_clearDraft_66 rfl (by decide) ?_
          refine g_eqi (v := nI (d_tb i)) (by rw [c_59]) ?_
          refine gb_iastN (q := 68) (j := 0) (i := 4) dX9_clearDraft_67 rfl hB rfl rfl rfl (by omega) (by decide) (fun g hB => ?_)
          refine g_iincN (q := 71) (c := 1) dX9_clearDraft_68 rfl (by decide) rfl rfl (by decide) ?_
          refine g_goto (q := 36) dX9_clearDraft_71 (by decide) ?_
          refine g_lvs (lv1 := [(1, .int (nI (i + 1))), (0, .ref o)]) ⟨rfl, rfl, trivial⟩ ?_
          exact ih (i + 1) _ (by omega) (by rw [← v_fg_s (f := A 4)]; exact hB)
        · refine g_iconst (q := 63) (v := (nI 1)) dX9_clearDraft_62 rfl (by decide) ?_
          refine g_eqi (v := nI (d_tb i)) (by rw [show d_tb i = 1 by have := d_tb_le i; omega]) ?_
          refine g_goto (q := 67) dX9_clearDraft_63 (by decide) ?_
          refine gb_iastN (q := 68) (j := 0) (i := 4) dX9_clearDraft_67 rfl hB rfl rfl rfl (by omega) (by decide) (fun g hB => ?_)
          refine g_iincN (q := 71) (c := 1) dX9_clearDraft_68 rfl (by decide) rfl rfl (by decide) ?_
          refine g_goto (q := 36) dX9_clearDraft_71 (by decide) ?_
          refine g_lvs (lv1 := [(1, .int (nI (i + 1))), (0, .ref o)]) ⟨rfl, rfl, trivial⟩ ?_
          exact ih (i + 1) _ (by omega) (by rw [← v_fg_s (f := A 4)]; exact hB)
  have K34 : ∀ g1 : Nat → va_E, bz_B L g g1 [(o, b_Mod E o I (va_up (va_up A 2 (v_fg (A 2) 8 (fun _ => nI 4) 8)) 3 (v_fg (A 3) 8 (fun _ => nI 2) 8)))] → bz_G l E mX9_clearDraft (bz_R 1 0 0) L sz (bz_Fm E L sz (fun r g1 => r = none ∧ bz_B L g g1 [(o, b_Mod E o (va_up I 20 (nI 2)) (q_c0 (q_c0 (q_cd A) 0) 1))])) sz 0 0 L g1 34 [(0, .ref o)] [] := by
    intro g2 hB
    refine g_iconst (q := 35) (v := (nI 0)) dX9_clearDraft_34 rfl (by decide) ?_
    refine g_istore_n (q := 36) rfl dX9_clearDraft_35 rfl (by decide) rfl ?_
    refine g_lvs (lv1 := [(1, .int (nI 0)), (0, .ref o)]) ⟨rfl, rfl, trivial⟩ ?_
    exact L2 16 0 _ rfl (by rw [v_fg_0]; exact hB)
  have L1 : ∀ (m i : Nat) (g1 : Nat → va_E), i + m = 8 → bz_B L g g1 [(o, b_Mod E o I (va_up (va_up A 2 (v_fg (A 2) 8 (fun _ => nI 4) i)) 3 (v_fg (A 3) 8 (fun _ => nI 2) i)))] → bz_G l E mX9_clearDraft (bz_R 1 0 0) L sz (bz_Fm E L sz (fun r g1 => r = none ∧ bz_B L g g1 [(o, b_Mod E o (va_up I 20 (nI 2)) (q_c0 (q_c0 (q_cd A) 0) 1))])) sz 0 0 L g1 2 [(1, .int (nI i)), (0, .ref o)] [] := by
    intro m
    induction m with
    | zero =>
      intro i g2 hm hB
      refine g_iload_n (q := 3) dX9_clearDraft_2 rfl rfl ?_
      refine g_bipush (q := 5) (v := (nI 8)) dX9_clearDraft_3 rfl (by decide) ?_
      refine g_icmpN_ge (q := 8) (t := 34) dX9_clearDraft_5 rfl (by decide) (by omega) (by omega) (fun _ => ?_) (fun c => absurd c (by omega))
      refine g_lvs (lv1 := [(0, .ref o)]) ⟨rfl, trivial⟩ ?_
      have hi8 : i = 8 := by omega
      subst hi8
      exact K34 _ hB
    | succ m ih =>
      intro i g2 hm hB
      refine g_iload_n (q := 3) dX9_clearDraft_2 rfl rfl ?_
      refine g_bipush (q := 5) (v := (nI 8)) dX9_clearDraft_3 rfl (by decide) ?_
      refine g_icmpN_ge (q := 8) (t := 34) dX9_clearDraft_5 rfl (by decide) (by omega) (by omega) (fun c_5 => ?_) (fun c_5 => ?_)
      · refine g_lvs (lv1 := [(0, .ref o)]) ⟨rfl, trivial⟩ ?_
        have hi8 : i = 8 := by omega
        subst hi8
        exact K34 _ hB
      · refine g_aload_n (q := 9) dX9_clearDraft_8 rfl rfl ?_
        refine gb_getf (q := 12) (j := 0) (i := 0) dX9_clearDraft_9 rfl fl_X9_13 hB rfl rfl rfl rfl ?_
        refine g_bipush (q := 14) (v := (nI 8)) dX9_clearDraft_12 rfl (by decide) ?_
        refine g_iload_n (q := 15) dX9_clearDraft_14 rfl rfl ?_
        refine g_iaddN (q := 16) dX9_clearDraft_15 rfl ?_
        refine g_iconst (q := 17) (v := (nI 4)) dX9_clearDraft_16 rfl (by decide) ?_
        refine gb_iastN (q := 18) (j := 0) (i := 2) dX9_clearDraft_17 rfl hB rfl rfl rfl (by omega) (by decide) (fun g hB => ?_)
        refine g_aload_n (q := 19) dX9_clearDraft_18 rfl rfl ?_
        refine gb_getf (q := 22) (j := 0) (i := 0) dX9_clearDraft_19 rfl fl_X9_16 hB rfl rfl rfl rfl ?_
        refine g_bipush (q := 24) (v := (nI 8)) dX9_clearDraft_22 rfl (by decide) ?_
        refine g_iload_n (q := 25) dX9_clearDraft_24 rfl rfl ?_
        refine g_iaddN (q := 26) dX9_clearDraft_25 rfl ?_
        refine g_iconst (q := 27) (v := (nI 2)) dX9_clearDraft_26 rfl (by decide) ?_
        refine gb_iastN (q := 28) (j := 0) (i := 3) dX9_clearDraft_27 rfl hB rfl rfl rfl (by omega) (by decide) (fun g hB => ?_)
        refine g_iincN (q := 31) (c := 1) dX9_clearDraft_28 rfl (by decide) rfl rfl (by decide) ?_
        refine g_goto (q := 2) dX9_clearDraft_31 (by decide) ?_
        refine g_lvs (lv1 := [(1, .int (nI (i + 1))), (0, .ref o)]) ⟨rfl, rfl, trivial⟩ ?_
        exact ih (i + 1) _ (by omega) (by rw [← v_fg_s (f := A 2), ← v_fg_s (f := A 3)]; exact hB)
  refine g_iconst (q := 1) (v := (nI 0)) dX9_clearDraft_0 rfl (by decide) ?_
  refine g_istore_n (q := 2) rfl dX9_clearDraft_1 rfl (by decide) rfl ?_
  refine g_lvs (lv1 := [(1, .int (nI 0)), (0, .ref o)]) ⟨rfl, rfl, trivial⟩ ?_
  exact L1 8 0 _ rfl (by rw [v_fg_0, v_fg_0]; exact hB)
set_option maxRecDepth 20000 in
set_option maxHeartbeats 1000000 in
theorem c_mlifts {l : Launch} {E : bz_E} {L : List Nat} {g : Nat → va_E} {a N h : Nat} {f : Nat → Int32} (hN : nI N / nI 2 = nI h) (hh : N = 2 * h) (hN31 : N < 2 ^ 31) (hH : bz_H L g a [.inl (E.1.1 21, N, .inl f)]) : bz_K l E mX9_lifts 0 [.ref a] L g (fun r g1 => r = none ∧ bz_B L g g1 [(a, [.inl (E.1.1 21, N, .inl (v_li f h h))])]) := by
  refine bz_K.of (by decide) (bz_le rfl) (fun sz => ?_)
  show bz_G _ _ _ _ _ _ _ _ _ _ _ _ 0 [(0, .ref a)] []
  have hB := bz_B.rf (bz_W.one hH)
  have K : ∀ (m i : Nat) (g1 : Nat → va_E), i + m = h → bz_B L g g1 [(a, [.inl (E.1.1 21, N, .inl (v_li f h i))])] → bz_G l E mX9_lifts (bz_R 0 0 0) L sz (bz_Fm E L sz (fun r g1 => r = none ∧ bz_B L g g1 [(a, [.inl (E.1.1 21, N, .inl (v_li f h h))])])) sz 0 0 L g1 2 [(1, .int (nI i)), (0, .ref a)] [] := by
    intro m
    induction m with
    | zero =>
      intro i g2 hm hB
      have e : i = h := by omega
      refine g_iload_n (q := 3) dX9_lifts_2 rfl rfl ?_
      refine g_aload_n (q := 4) dX9_lifts_3 rfl rfl ?_
      refine gb_alen (q := 5) (j := 0) (i := 0) (t0 := 1) dX9_lifts_4 rfl hB rfl rfl rfl rfl ?_
      refine g_iconst (q := 6) (v := (nI 2)) dX9_lifts_5 rfl (by decide) ?_
      refine g_idiv (q := 7) dX9_lifts_6 rfl (by decide) ?_
      refine g_eqi (v := nI (h)) (hN) ?_
      refine g_icmpN_ge (q := 10) (t := 27) dX9_lifts_7 rfl (by decide) (by omega) (by omega) (fun _ => ?_) (fun c => absurd c (by omega))
      exact g_vret dX9_lifts_27 rfl (by rw [e] at hB; exact ⟨rfl, hB⟩)
    | succ m ih =>
      intro i g2 hm hB
      refine g_iload_n (q := 3) dX9_lifts_2 rfl rfl ?_
      refine g_aload_n (q := 4) dX9_lifts_3 rfl rfl ?_
      refine gb_alen (q := 5) (j := 0) (i := 0) (t0 := 1) dX9_lifts_4 rfl hB rfl rfl rfl rfl ?_
      refine g_iconst (q := 6) (v := (nI 2)) dX9_lifts_5 rfl (by decide) ?_
      refine g_idiv (q := 7) dX9_lifts_6 rfl (by decide) ?_
      refine g_eqi (v := nI (h)) (hN) ?_
      refine g_icmpN_ge (q := 10) (t := 27) dX9_lifts_7 rfl (by decide) (by omega) (by omega) (fun c => absurd c (by omega)) (fun _ => ?_)
      refine g_aload_n (q := 11) dX9_lifts_10 rfl rfl ?_
      refine g_iload_n (q := 12) dX9_lifts_11 rfl rfl ?_
      refine g_aload_n (q := 13) dX9_lifts_12 rfl rfl ?_
      refine g_aload_n (q := 14) dX9_lifts_13 rfl rfl ?_
      refine gb_alen (q := 15) (j := 0) (i := 0) (t0 := 1) dX9_lifts_14 rfl hB rfl rfl rfl rfl ?_
      refine g_iconst (q := 16) (v := (nI 2)) dX9_lifts_15 rfl (by decide) ?_
      refine g_idiv (q := 17) dX9_lifts_16 rfl (by decide) ?_
      refine g_eqi (v := nI (h)) (hN) ?_
      refine g_iload_n (q := 18) dX9_lifts_17 rfl rfl ?_
      refine g_iaddN (q := 19) dX9_lifts_18 rfl ?_
      refine gb_ialdN (q := 20) (j := 0) (i := 0) dX9_lifts_19 rfl hB rfl rfl rfl (by omega) hN31 ?_
      refine gb_iastN (q := 21) (j := 0) (i := 0) dX9_lifts_20 rfl hB rfl rfl rfl (by omega) hN31 (fun g hB => ?_)
      refine g_iincN (q := 24) (c := 1) dX9_lifts_21 rfl (by decide) rfl rfl (by decide) ?_
      refine g_goto (q := 2) dX9_lifts_24 (by decide) ?_
      refine g_lvs (lv1 := [(1, .int (nI (i + 1))), (0, .ref a)]) ⟨rfl, rfl, trivial⟩ ?_
      exact ih (i + 1) _ (by omega) (by rw [← v_li_s (by omega)]; exact hB)
  refine g_iconst (q := 1) (v := (nI 0)) dX9_lifts_0 rfl (by decide) ?_
  refine g_istore_n (q := 2) rfl dX9_lifts_1 rfl (by decide) rfl ?_
  refine g_lvs (lv1 := [(1, .int (nI 0)), (0, .ref a)]) ⟨rfl, rfl, trivial⟩ ?_
  exact K h 0 _ (Nat.zero_add h) (by rw [show v_li f h 0 = f from funext fun k => if_neg (by omega)]; exact hB)
