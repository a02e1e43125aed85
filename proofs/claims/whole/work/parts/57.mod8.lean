/-! the reference: joined, latencyOf -/
def m_cd (i : Int32) : Int32 := if i = -43 then -1 else if i = -45 then -2 else if i = -42 then -3 else if i = -47 then -4 else if i = -37 then -5 else if i = -1 then 1 else if i = -2 then 2 else if i = -3 then 3 else if i = -4 then 4 else i + 100
theorem m_cd_num {n : Nat} (h : n < 10000) : m_cd (nI n) = nI (n + 100) := by
  have hn : ∀ c : Int32, c < 0 → nI n ≠ c := fun c hc e => (e_num_gt h).2 (by rw [e]; exact hc)
  unfold m_cd
  rw [if_neg (hn _ (by decide)), if_neg (hn _ (by decide)), if_neg (hn _ (by decide)), if_neg (hn _ (by decide)), if_neg (hn _ (by decide)), if_neg (hn _ (by decide)), if_neg (hn _ (by decide)), if_neg (hn _ (by decide)), if_neg (hn _ (by decide))]
  exact nI_add n 100
theorem m_cd_op {i : Int32} (h : e_isop i) : m_cd i ≤ 0 := by
  rcases h with rfl | rfl | rfl | rfl | rfl <;> decide
theorem m_cd_nm {i : Int32} (h : e_isnm i) : ∃ c : Nat, m_cd i = nI c ∧ 1 ≤ c ∧ c ≤ 4 ∧ ∀ (F : Nat → Int32), F c = e_nm i (F 1) (F 2) (F 3) (F 4) := by
  rcases h with rfl | rfl | rfl | rfl
  · exact ⟨1, rfl, by decide, by decide, fun F => rfl⟩
  · exact ⟨2, rfl, by decide, by decide, fun F => rfl⟩
  · exact ⟨3, rfl, by decide, by decide, fun F => rfl⟩
  · exact ⟨4, rfl, by decide, by decide, fun F => rfl⟩
theorem m_cl0 {v : Int32} (h : ¬ 0 ≤ v) : nI 0 = nI (s_cl v) := by
  unfold s_cl; rw [if_pos (Int32.le_of_lt (Int32.not_le.mp h))]
theorem m_cl1 {v : Int32} (h : 0 ≤ v) (h2 : ¬ v ≤ nI 50) : nI 50 = nI (s_cl v) := by
  have h3 := Int32.not_le.mp h2
  have h0 : ¬ v ≤ 0 := fun e => h2 (Int32.le_trans e (by decide))
  unfold s_cl; rw [if_neg h0, if_pos (show (50 : Int32) ≤ v from Int32.le_of_lt h3)]
theorem m_cl2 {v : Int32} (h : 0 ≤ v) (h2 : v ≤ nI 50) : v = nI (s_cl v) := by
  unfold s_cl
  by_cases c : v ≤ 0
  · rw [if_pos c]; exact Int32.le_antisymm c h
  · rw [if_neg c]
    by_cases c2 : 50 ≤ v
    · rw [if_pos c2]; exact Int32.le_antisymm h2 c2
    · rw [if_neg c2]
      obtain ⟨j, hj, rfl⟩ := nI_of (x := v) (Int32.not_lt.mpr h)
      rw [nI_clamp hj]

set_option maxRecDepth 20000 in
set_option maxHeartbeats 1000000 in
theorem c_mjoined {l : Launch} {E : bz_E} {L : List Nat} {g : Nat → va_E} {i x y : Int32} (hi : e_isop i) : bz_K l E mX9_joined 0 [.int (m_cd i), .int x, .int y] L g (fun r g1 => r = some (.int (e_op i x y)) ∧ g1 = g) := by
  refine bz_K.of (by decide) (bz_le rfl) (fun sz => ?_)
  show bz_G _ _ _ _ _ _ _ _ _ _ _ _ 0 [(0, .int (m_cd i)), (1, .int x), (2, .int y)] []
  rcases hi with rfl | rfl | rfl | rfl | rfl
  · refine g_iload_n (q := 1) dX9_joined_0 rfl rfl ?_
    refine g_tableIn (t := 32) dX9_joined_1 (by decide) (by decide) rfl (by decide) ?_
    refine g_iload_n (q := 33) dX9_joined_32 rfl rfl ?_
    refine g_iload_n (q := 34) dX9_joined_33 rfl rfl ?_
    refine g_iadd (q := 35) dX9_joined_34 rfl ?_
    exact g_iret dX9_joined_35 rfl (⟨by simp [e_op, *], rfl⟩)
  · refine g_iload_n (q := 1) dX9_joined_0 rfl rfl ?_
    refine g_tableIn (t := 36) dX9_joined_1 (by decide) (by decide) rfl (by decide) ?_
    refine g_iload_n (q := 37) dX9_joined_36 rfl rfl ?_
    refine g_iload_n (q := 38) dX9_joined_37 rfl rfl ?_
    refine g_isub (q := 39) dX9_joined_38 rfl ?_
    exact g_iret dX9_joined_39 rfl (⟨by simp [e_op, *], rfl⟩)
  · refine g_iload_n (q := 1) dX9_joined_0 rfl rfl ?_
    refine g_tableIn (t := 40) dX9_joined_1 (by decide) (by decide) rfl (by decide) ?_
    refine g_iload_n (q := 41) dX9_joined_40 rfl rfl ?_
    refine g_iload_n (q := 42) dX9_joined_41 rfl rfl ?_
    refine g_imul (q := 43) dX9_joined_42 rfl ?_
    exact g_iret dX9_joined_43 rfl (⟨by simp [e_op, *], rfl⟩)
  · refine g_iload_n (q := 1) dX9_joined_0 rfl rfl ?_
    refine g_tableIn (t := 44) dX9_joined_1 (by decide) (by decide) rfl (by decide) ?_
    refine g_iload_n (q := 45) dX9_joined_44 rfl rfl ?_
    refine g_if_ne (q := 48) (t := 52) dX9_joined_45 rfl (by decide) (fun c_45 => ?_) (fun c_45 => ?_)
    · refine g_iload_n (q := 53) dX9_joined_52 rfl rfl ?_
      refine g_iload_n (q := 54) dX9_joined_53 rfl rfl ?_
      refine g_idiv (q := 55) dX9_joined_54 rfl c_45 ?_
      exact g_iret dX9_joined_55 rfl (⟨by simp [e_op, *], rfl⟩)
    · refine g_iconst (q := 49) (v := 0) dX9_joined_48 rfl (by decide) ?_
      refine g_goto (q := 55) dX9_joined_49 (by decide) ?_
      exact g_iret dX9_joined_55 rfl (⟨by simp [e_op, *], rfl⟩)
  · refine g_iload_n (q := 1) dX9_joined_0 rfl rfl ?_
    refine g_tableOut (t := 56) dX9_joined_1 (by decide) (by decide) ?_
    refine g_iload_n (q := 57) dX9_joined_56 rfl rfl ?_
    refine g_if_ne (q := 60) (t := 64) dX9_joined_57 rfl (by decide) (fun c_57 => ?_) (fun c_57 => ?_)
    · refine g_iload_n (q := 65) dX9_joined_64 rfl rfl ?_
      refine g_iload_n (q := 66) dX9_joined_65 rfl rfl ?_
      refine g_irem (q := 67) dX9_joined_66 rfl c_57 ?_
      exact g_iret dX9_joined_67 rfl (⟨by simp [e_op, *], rfl⟩)
    · refine g_iconst (q := 61) (v := 0) dX9_joined_60 rfl (by decide) ?_
      refine g_goto (q := 67) dX9_joined_61 (by decide) ?_
      exact g_iret dX9_joined_67 rfl (⟨by simp [e_op, *], rfl⟩)
set_option maxRecDepth 20000 in
set_option maxHeartbeats 1000000 in
theorem c_mlatencyOf {l : Launch} {E : bz_E} {L : List Nat} {g : Nat → va_E} {o : Nat} {I : Nat → Int32} {A : Nat → Nat → Int32} {s e : Nat} {l0 : List Int32} (hs : s < 2) (he : e + 15 ≤ 2075) (hcs : A 7 s = nI l0.length) (hl : l0.length ≤ 600) (hit : ∀ (j : Nat) (x : Int32), l0[j]? = some x → A 8 (620 * s + j) = m_cd x) (hok : e_ok l0 0) (hH : bz_H L g o (b_Mod E o I A)) : bz_K l E mX9_latencyOf 1 [.ref o, .int (nI s), .int (nI e)] L g (fun r g1 => r = some (.int (nI (s_cl (e_val l0 (A 1 (e + 0)) (A 1 (e + 2)) (A 1 (e + 3)) (A 1 0))))) ∧ ∃ F v : Nat → Int32, bz_B L g g1 [(o, (b_Mod E o I (va_up (va_up A 11 F) 10 v)))]) := by
  refine bz_K.of (by decide) (bz_le rfl) (fun sz => ?_)
  show bz_G _ _ _ _ _ _ _ _ _ _ _ _ 0 [(0, .ref o), (1, .int (nI s)), (2, .int (nI e))] []
  have hB := bz_B.rf (bz_W.one hH)
  have K : ∀ (m : List Int32) (i n : Nat) (s1 : List Int32) (v : Nat → Int32) (g1 : Nat → va_E), i + m.length = l0.length → (∀ (j : Nat) (x : Int32), m[j]? = some x → A 8 (620 * s + (i + j)) = m_cd x) → s1.length = n → n ≤ 16 → e_ok m n → e_has v s1 → bz_B L g g1 [(o, (b_Mod E o I (va_up (va_up A 11 (upd (upd (upd (upd (A 11) 1 (A 1 (e + 0))) 2 (A 1 (e + 2))) 3 (A 1 (e + 3))) 4 (A 1 0))) 10 v)))] → e_run (A 1 (e + 0)) (A 1 (e + 2)) (A 1 (e + 3)) (A 1 0) m s1 = e_run (A 1 (e + 0)) (A 1 (e + 2)) (A 1 (e + 3)) (A 1 0) l0 [] → bz_G l E mX9_latencyOf (bz_R 1 0 0) L sz (bz_Fm E L sz (fun r g1 => r = some (.int (nI (s_cl (e_val l0 (A 1 (e + 0)) (A 1 (e + 2)) (A 1 (e + 3)) (A 1 0))))) ∧ ∃ F v : Nat → Int32, bz_B L g g1 [(o, (b_Mod E o I (va_up (va_up A 11 F) 10 v)))])) sz 0 0 L g1 59 [(4, .int (nI i)), (3, .int (nI n)), (0, .ref o), (1, .int (nI s)), (2, .int (nI e))] [] := by
    intro m
    induction m with
    | nil =>
      intro i n s1 v g2 hi hit hn hn16 hok hs hB hrun
      have hi2 : i = l0.length := by simpa using hi
      have hend : v 0 = (e_val l0 (A 1 (e + 0)) (A 1 (e + 2)) (A 1 (e + 3)) (A 1 0)) := by
        have h1 : n = 1 := hok
        rw [e_val, ← hrun, e_run]
        match s1, hn, hs with
        | [x], _, hs => exact hs 0 x rfl
        | [], hn, _ => simp at hn; omega
        | _ :: _ :: _, hn, _ => simp at hn; omega
      refine g_iload (q := 61) dX9_latencyOf_59 rfl rfl ?_
      refine g_aload_n (q := 62) dX9_latencyOf_61 rfl rfl ?_
      refine gb_getf (q := 65) (j := 0) (i := 0) dX9_latencyOf_62 rfl fl_X9_28 hB rfl rfl rfl rfl ?_
      refine g_iload_n (q := 66) dX9_latencyOf_65 rfl rfl ?_
      refine gb_ialdN (q := 67) (j := 0) (i := 7) dX9_latencyOf_66 rfl hB rfl rfl rfl (by omega) (by decide) ?_
      refine g_eqi (v := nI (l0.length)) (hcs) ?_
      refine g_icmpN_ge (q := 70) (t := 160) dX9_latencyOf_67 rfl (by decide) (by omega) (by omega) (fun _ => ?_) (fun c => absurd c (by omega))
      refine g_aload_n (q := 161) dX9_latencyOf_160 rfl rfl ?_
      refine gb_getf (q := 164) (j := 0) (i := 0) dX9_latencyOf_161 rfl fl_X9_42 hB rfl rfl rfl rfl ?_
      refine g_iconst (q := 165) (v := (nI 0)) dX9_latencyOf_164 rfl (by decide) ?_
      refine gb_ialdN (q := 166) (j := 0) (i := 10) dX9_latencyOf_165 rfl hB rfl rfl rfl (by omega) (by decide) ?_
      refine g_eqi (v := (e_val l0 (A 1 (e + 0)) (A 1 (e + 2)) (A 1 (e + 3)) (A 1 0))) (hend) ?_
      refine g_if_ge (q := 169) (t := 173) dX9_latencyOf_166 rfl (by decide) (fun c_166 => ?_) (fun c_166 => ?_)
      · refine g_aload_n (q := 174) dX9_latencyOf_173 rfl rfl ?_
        refine gb_getf (q := 177) (j := 0) (i := 0) dX9_latencyOf_174 rfl fl_X9_42 hB rfl rfl rfl rfl ?_
        refine g_iconst (q := 178) (v := (nI 0)) dX9_latencyOf_177 rfl (by decide) ?_
        refine gb_ialdN (q := 179) (j := 0) (i := 10) dX9_latencyOf_178 rfl hB rfl rfl rfl (by omega) (by decide) ?_
        refine g_eqi (v := (e_val l0 (A 1 (e + 0)) (A 1 (e + 2)) (A 1 (e + 3)) (A 1 0))) (hend) ?_
        refine g_bipush (q := 181) (v := (nI 50)) dX9_latencyOf_179 rfl (by decide) ?_
        refine g_icmp_le (q := 184) (t := 189) dX9_latencyOf_181 rfl (by decide) (fun c_181 => ?_) (fun c_181 => ?_)
        · refine g_aload_n (q := 190) dX9_latencyOf_189 rfl rfl ?_
          refine gb_getf (q := 193) (j := 0) (i := 0) dX9_latencyOf_190 rfl fl_X9_42 hB rfl rfl rfl rfl ?_
          refine g_iconst (q := 194) (v := (nI 0)) dX9_latencyOf_193 rfl (by decide) ?_
          refine gb_ialdN (q := 195) (j := 0) (i := 10) dX9_latencyOf_194 rfl hB rfl rfl rfl (by omega) (by decide) ?_
          refine g_eqi (v := (e_val l0 (A 1 (e + 0)) (A 1 (e + 2)) (A 1 (e + 3)) (A 1 0))) (hend) ?_
          exact g_iret dX9_latencyOf_195 rfl (⟨congrArg (fun z => some (Value.int z)) (by first | exact m_cl0 c_166 | exact m_cl1 c_166 c_181 | exact m_cl2 c_166 c_181), _, _, hB⟩)
        · refine g_bipush (q := 186) (v := (nI 50)) dX9_latencyOf_184 rfl (by decide) ?_
          refine g_goto (q := 195) dX9_latencyOf_186 (by decide) ?_
          exact g_iret dX9_latencyOf_195 rfl (⟨congrArg (fun z => some (Value.int z)) (by first | exact m_cl0 c_166 | exact m_cl1 c_166 c_181 | exact m_cl2 c_166 c_181), _, _, hB⟩)
      · refine g_iconst (q := 170) (v := (nI 0)) dX9_latencyOf_169 rfl (by decide) ?_
        refine g_goto (q := 195) dX9_latencyOf_170 (by decide) ?_
        exact g_iret dX9_latencyOf_195 rfl (⟨congrArg (fun z => some (Value.int z)) (by first | exact m_cl0 c_166 | exact m_cl1 c_166 c_181 | exact m_cl2 c_166 c_181), _, _, hB⟩)
    | cons q m ih =>
      intro i n s1 v g2 hi hit hn hn16 hok hs hB hrun
      have hi2 : i + (m.length + 1) = l0.length := by simpa using hi
      have hq : A 8 (620 * s + i) = m_cd q := hit 0 q rfl
      rcases hok with ⟨h1, h2, h3⟩ | ⟨h1 | ⟨q2, h1, rfl⟩, h2, h3⟩
      · obtain ⟨y, x, r, rfl⟩ : ∃ y x r, s1 = y :: x :: r := by
          match s1, hn with
          | [], hn => simp at hn; omega
          | [_], hn => simp at hn; omega
          | y :: x :: r, _ => exact ⟨y, x, r, rfl⟩
        refine g_iload (q := 61) dX9_latencyOf_59 rfl rfl ?_
        refine g_aload_n (q := 62) dX9_latencyOf_61 rfl rfl ?_
        refine gb_getf (q := 65) (j := 0) (i := 0) dX9_latencyOf_62 rfl fl_X9_28 hB rfl rfl rfl rfl ?_
        refine g_iload_n (q := 66) dX9_latencyOf_65 rfl rfl ?_
        refine gb_ialdN (q := 67) (j := 0) (i := 7) dX9_latencyOf_66 rfl hB rfl rfl rfl (by omega) (by decide) ?_
        refine g_eqi (v := nI (l0.length)) (hcs) ?_
        refine g_icmpN_ge (q := 70) (t := 160) dX9_latencyOf_67 rfl (by decide) (by omega) (by omega) (fun c => absurd c (by omega)) (fun _ => ?_)
        refine g_aload_n (q := 71) dX9_latencyOf_70 rfl rfl ?_
        refine gb_getf (q := 74) (j := 0) (i := 0) dX9_latencyOf_71 rfl fl_X9_31 hB rfl rfl rfl rfl ?_
        refine g_sipush (q := 77) (v := (nI 620)) dX9_latencyOf_74 rfl (by decide) ?_
        refine g_iload_n (q := 78) dX9_latencyOf_77 rfl rfl ?_
        refine g_imulN (q := 79) dX9_latencyOf_78 rfl ?_
        refine g_iload (q := 81) dX9_latencyOf_79 rfl rfl ?_
        refine g_iaddN (q := 82) dX9_latencyOf_81 rfl ?_
        refine gb_ialdN (q := 83) (j := 0) (i := 8) dX9_latencyOf_82 rfl hB rfl rfl rfl (by omega) (by decide) ?_
        refine g_eqi (v := m_cd q) (hq) ?_
        refine g_istore (q := 85) dX9_latencyOf_83 rfl (by decide) rfl ?_
        refine g_iload (q := 87) dX9_latencyOf_85 rfl rfl ?_
        refine g_if_le (q := 90) (t := 124) dX9_latencyOf_87 rfl (by decide) (fun _ => ?_) (fun c => absurd (m_cd_op h1) c)
        refine g_iincM (q := 127) (c := 1) dX9_latencyOf_124 rfl (by decide) rfl rfl (by decide) (by omega) ?_
        refine g_aload_n (q := 128) dX9_latencyOf_127 rfl rfl ?_
        refine gb_getf (q := 131) (j := 0) (i := 0) dX9_latencyOf_128 rfl fl_X9_42 hB rfl rfl rfl rfl ?_
        refine g_iload_n (q := 132) dX9_latencyOf_131 rfl rfl ?_
        refine g_iconst (q := 133) (v := (nI 1)) dX9_latencyOf_132 rfl (by decide) ?_
        refine g_isubN (q := 134) dX9_latencyOf_133 rfl (by omega) ?_
        refine g_iload (q := 136) dX9_latencyOf_134 rfl rfl ?_
        refine g_aload_n (q := 137) dX9_latencyOf_136 rfl rfl ?_
        refine gb_getf (q := 140) (j := 0) (i := 0) dX9_latencyOf_137 rfl fl_X9_42 hB rfl rfl rfl rfl ?_
        refine g_iload_n (q := 141) dX9_latencyOf_140 rfl rfl ?_
        refine g_iconst (q := 142) (v := (nI 1)) dX9_latencyOf_141 rfl (by decide) ?_
        refine g_isubN (q := 143) dX9_latencyOf_142 rfl (by omega) ?_
        refine gb_ialdN (q := 144) (j := 0) (i := 10) dX9_latencyOf_143 rfl hB rfl rfl rfl (by omega) (by decide) ?_
        refine g_eqi (v := x) (by rw [show n - 1 - 1 = r.length by simp at hn; omega]; exact (e_has_1 hs).1) ?_
        refine g_aload_n (q := 145) dX9_latencyOf_144 rfl rfl ?_
        refine gb_getf (q := 148) (j := 0) (i := 0) dX9_latencyOf_145 rfl fl_X9_42 hB rfl rfl rfl rfl ?_
        refine g_iload_n (q := 149) dX9_latencyOf_148 rfl rfl ?_
        refine gb_ialdN (q := 150) (j := 0) (i := 10) dX9_latencyOf_149 rfl hB rfl rfl rfl (by omega) (by decide) ?_
        refine g_eqi (v := y) (by rw [show n - 1 = r.length + 1 by simp at hn; omega]; exact (e_has_1 hs).2) ?_
        refine g_callS (q := 153) dX9_latencyOf_150 rfl ks_X9_206 rfl (c_mjoined h1) (by decide) rfl (bz_le rfl) (by decide) (by decide) (fun r g1 hQ => ?_)
        obtain ⟨rfl, hg⟩ := hQ
        have hg := hg.symm
        subst hg
        refine gb_iastN (q := 154) (j := 0) (i := 10) dX9_latencyOf_153 rfl hB rfl rfl rfl (by omega) (by decide) (fun g hB => ?_)
        refine g_iincN (q := 157) (c := 1) dX9_latencyOf_154 rfl (by decide) rfl rfl (by decide) ?_
        refine g_goto (q := 59) dX9_latencyOf_157 (by decide) ?_
        refine g_lvs (lv1 := [(4, .int (nI (i + 1))), (3, .int (nI (n - 1))), (0, .ref o), (1, .int (nI s)), (2, .int (nI e))]) ⟨rfl, rfl, rfl, rfl, rfl, trivial⟩ ?_
        exact ih (i + 1) (n - 1) (e_op q x y :: r) (upd v (n - 1 - 1) (e_op q x y)) _ (by omega) (fun j x hj => by rw [show i + 1 + j = i + (j + 1) by omega]; exact hit (j + 1) x hj) (by simp at hn ⊢; omega) (by omega) h3 (by rw [show n - 1 - 1 = r.length by simp at hn; omega]; exact e_has_op hs) hB (by rw [← hrun, e_run, e_st, if_pos (e_isop_le h1).1])
      · obtain ⟨c, hc0, hc1, hc2, hc3⟩ := m_cd_nm h1
        refine g_iload (q := 61) dX9_latencyOf_59 rfl rfl ?_
        refine g_aload_n (q := 62) dX9_latencyOf_61 rfl rfl ?_
        refine gb_getf (q := 65) (j := 0) (i := 0) dX9_latencyOf_62 rfl fl_X9_28 hB rfl rfl rfl rfl ?_
        refine g_iload_n (q := 66) dX9_latencyOf_65 rfl rfl ?_
        refine gb_ialdN (q := 67) (j := 0) (i := 7) dX9_latencyOf_66 rfl hB rfl rfl rfl (by omega) (by decide) ?_
        refine g_eqi (v := nI (l0.length)) (hcs) ?_
        refine g_icmpN_ge (q := 70) (t := 160) dX9_latencyOf_67 rfl (by decide) (by omega) (by omega) (fun c => absurd c (by omega)) (fun _ => ?_)
        refine g_aload_n (q := 71) dX9_latencyOf_70 rfl rfl ?_
        refine gb_getf (q := 74) (j := 0) (i := 0) dX9_latencyOf_71 rfl fl_X9_31 hB rfl rfl rfl rfl ?_
        refine g_sipush (q := 77) (v := (nI 620)) dX9_latencyOf_74 rfl (by decide) ?_
        refine g_iload_n (q := 78) dX9_latencyOf_77 rfl rfl ?_
        refine g_imulN (q := 79) dX9_latencyOf_78 rfl ?_
        refine g_iload (q := 81) dX9_latencyOf_79 rfl rfl ?_
        refine g_iaddN (q := 82) dX9_latencyOf_81 rfl ?_
        refine gb_ialdN (q := 83) (j := 0) (i := 8) dX9_latencyOf_82 rfl hB rfl rfl rfl (by omega) (by decide) ?_
        refine g_eqi (v := nI (c)) (hq.trans hc0) ?_
        refine g_istore (q := 85) dX9_latencyOf_83 rfl (by decide) rfl ?_
        refine g_iload (q := 87) dX9_latencyOf_85 rfl rfl ?_
        refine g_ifN_le (q := 90) (t := 124) dX9_latencyOf_87 rfl (by decide) (by omega) (fun c => absurd c (by omega)) (fun _ => ?_)
        refine g_aload_n (q := 91) dX9_latencyOf_90 rfl rfl ?_
        refine gb_getf (q := 94) (j := 0) (i := 0) dX9_latencyOf_91 rfl fl_X9_42 hB rfl rfl rfl rfl ?_
        refine g_iload_n (q := 95) dX9_latencyOf_94 rfl rfl ?_
        refine g_iload (q := 97) dX9_latencyOf_95 rfl rfl ?_
        refine g_bipush (q := 99) (v := (nI 100)) dX9_latencyOf_97 rfl (by decide) ?_
        refine g_icmpN_lt (q := 102) (t := 110) dX9_latencyOf_99 rfl (by decide) (by omega) (by omega) (fun _ => ?_) (fun c => absurd c (by omega))
        refine g_aload_n (q := 111) dX9_latencyOf_110 rfl rfl ?_
        refine gb_getf (q := 114) (j := 0) (i := 0) dX9_latencyOf_111 rfl fl_X9_45 hB rfl rfl rfl rfl ?_
        refine g_iload (q := 116) dX9_latencyOf_114 rfl rfl ?_
        refine gb_ialdN (q := 117) (j := 0) (i := 11) dX9_latencyOf_116 rfl hB rfl rfl rfl (by omega) (by decide) ?_
        refine g_eqi (v := e_nm q (A 1 (e + 0)) (A 1 (e + 2)) (A 1 (e + 3)) (A 1 0)) (hc3 _) ?_
        refine gb_iastN (q := 118) (j := 0) (i := 10) dX9_latencyOf_117 rfl hB rfl rfl rfl (by omega) (by decide) (fun g hB => ?_)
        refine g_iincN (q := 121) (c := 1) dX9_latencyOf_118 rfl (by decide) rfl rfl (by decide) ?_
        refine g_goto (q := 154) dX9_latencyOf_121 (by decide) ?_
        refine g_iincN (q := 157) (c := 1) dX9_latencyOf_154 rfl (by decide) rfl rfl (by decide) ?_
        refine g_goto (q := 59) dX9_latencyOf_157 (by decide) ?_
        refine g_lvs (lv1 := [(4, .int (nI (i + 1))), (3, .int (nI (n + 1))), (0, .ref o), (1, .int (nI s)), (2, .int (nI e))]) ⟨rfl, rfl, rfl, rfl, rfl, trivial⟩ ?_
        exact ih (i + 1) (n + 1) (e_nm q (A 1 (e + 0)) (A 1 (e + 2)) (A 1 (e + 3)) (A 1 0) :: s1) (upd v n (e_nm q (A 1 (e + 0)) (A 1 (e + 2)) (A 1 (e + 3)) (A 1 0))) _ (by omega) (fun j x hj => by rw [show i + 1 + j = i + (j + 1) by omega]; exact hit (j + 1) x hj) (by simp; exact hn) (by omega) h3 (by rw [← hn]; exact e_has_push hs) hB (by rw [← hrun, e_run, e_st_nm (e_isnm_gt h1).1 (e_isnm_gt h1).2])
      ·
        refine g_iload (q := 61) dX9_latencyOf_59 rfl rfl ?_
        refine g_aload_n (q := 62) dX9_latencyOf_61 rfl rfl ?_
        refine gb_getf (q := 65) (j := 0) (i := 0) dX9_latencyOf_62 rfl fl_X9_28 hB rfl rfl rfl rfl ?_
        refine g_iload_n (q := 66) dX9_latencyOf_65 rfl rfl ?_
        refine gb_ialdN (q := 67) (j := 0) (i := 7) dX9_latencyOf_66 rfl hB rfl rfl rfl (by omega) (by decide) ?_
        refine g_eqi (v := nI (l0.length)) (hcs) ?_
        refine g_icmpN_ge (q := 70) (t := 160) dX9_latencyOf_67 rfl (by decide) (by omega) (by omega) (fun c => absurd c (by omega)) (fun _ => ?_)
        refine g_aload_n (q := 71) dX9_latencyOf_70 rfl rfl ?_
        refine gb_getf (q := 74) (j := 0) (i := 0) dX9_latencyOf_71 rfl fl_X9_31 hB rfl rfl rfl rfl ?_
        refine g_sipush (q := 77) (v := (nI 620)) dX9_latencyOf_74 rfl (by decide) ?_
        refine g_iload_n (q := 78) dX9_latencyOf_77 rfl rfl ?_
        refine g_imulN (q := 79) dX9_latencyOf_78 rfl ?_
        refine g_iload (q := 81) dX9_latencyOf_79 rfl rfl ?_
        refine g_iaddN (q := 82) dX9_latencyOf_81 rfl ?_
        refine gb_ialdN (q := 83) (j := 0) (i := 8) dX9_latencyOf_82 rfl hB rfl rfl rfl (by omega) (by decide) ?_
        refine g_eqi (v := nI (q2 + 100)) (hq.trans (m_cd_num h1)) ?_
        refine g_istore (q := 85) dX9_latencyOf_83 rfl (by decide) rfl ?_
        refine g_iload (q := 87) dX9_latencyOf_85 rfl rfl ?_
        refine g_ifN_le (q := 90) (t := 124) dX9_latencyOf_87 rfl (by decide) (by omega) (fun c => absurd c (by omega)) (fun _ => ?_)
        refine g_aload_n (q := 91) dX9_latencyOf_90 rfl rfl ?_
        refine gb_getf (q := 94) (j := 0) (i := 0) dX9_latencyOf_91 rfl fl_X9_42 hB rfl rfl rfl rfl ?_
        refine g_iload_n (q := 95) dX9_latencyOf_94 rfl rfl ?_
        refine g_iload (q := 97) dX9_latencyOf_95 rfl rfl ?_
        refine g_bipush (q := 99) (v := (nI 100)) dX9_latencyOf_97 rfl (by decide) ?_
        refine g_icmpN_lt (q := 102) (t := 110) dX9_latencyOf_99 rfl (by decide) (by omega) (by omega) (fun c => absurd c (by omega)) (fun _ => ?_)
        refine g_iload (q := 104) dX9_latencyOf_102 rfl rfl ?_
        refine g_bipush (q := 106) (v := (nI 100)) dX9_latencyOf_104 rfl (by decide) ?_
        refine g_isubN (q := 107) dX9_latencyOf_106 rfl (by omega) ?_
        refine g_eqi (v := nI (q2)) (by congr 1) ?_
        refine g_goto (q := 117) dX9_latencyOf_107 (by decide) ?_
        refine gb_iastN (q := 118) (j := 0) (i := 10) dX9_latencyOf_117 rfl hB rfl rfl rfl (by omega) (by decide) (fun g hB => ?_)
        refine g_iincN (q := 121) (c := 1) dX9_latencyOf_118 rfl (by decide) rfl rfl (by decide) ?_
        refine g_goto (q := 154) dX9_latencyOf_121 (by decide) ?_
        refine g_iincN (q := 157) (c := 1) dX9_latencyOf_154 rfl (by decide) rfl rfl (by decide) ?_
        refine g_goto (q := 59) dX9_latencyOf_157 (by decide) ?_
        refine g_lvs (lv1 := [(4, .int (nI (i + 1))), (3, .int (nI (n + 1))), (0, .ref o), (1, .int (nI s)), (2, .int (nI e))]) ⟨rfl, rfl, rfl, rfl, rfl, trivial⟩ ?_
        exact ih (i + 1) (n + 1) (nI q2 :: s1) (upd v n (nI q2)) _ (by omega) (fun j x hj => by rw [show i + 1 + j = i + (j + 1) by omega]; exact hit (j + 1) x hj) (by simp; exact hn) (by omega) h3 (by rw [← hn]; exact e_has_push hs) hB (by rw [← hrun, e_run, e_st_num (e_num_gt h1).1 (e_num_gt h1).2])
  refine g_aload_n (q := 1) dX9_latencyOf_0 rfl rfl ?_
  refine gb_getf (q := 4) (j := 0) (i := 0) dX9_latencyOf_1 rfl fl_X9_45 hB rfl rfl rfl rfl ?_
  refine g_iconst (q := 5) (v := (nI 1)) dX9_latencyOf_4 rfl (by decide) ?_
  refine g_aload_n (q := 6) dX9_latencyOf_5 rfl rfl ?_
  refine gb_getf (q := 9) (j := 0) (i := 0) dX9_latencyOf_6 rfl fl_X9_7 hB rfl rfl rfl rfl ?_
  refine g_iload_n (q := 10) dX9_latencyOf_9 rfl rfl ?_
  refine g_iconst (q := 11) (v := (nI 0)) dX9_latencyOf_10 rfl (by decide) ?_
  refine g_iaddN (q := 12) dX9_latencyOf_11 rfl ?_
  refine gb_ialdN (q := 13) (j := 0) (i := 1) dX9_latencyOf_12 rfl hB rfl rfl rfl (by omega) (by decide) ?_
  refine gb_iastN (q := 14) (j := 0) (i := 11) dX9_latencyOf_13 rfl hB rfl rfl rfl (by omega) (by decide) (fun g hB => ?_)
  refine g_aload_n (q := 15) dX9_latencyOf_14 rfl rfl ?_
  refine gb_getf (q := 18) (j := 0) (i := 0) dX9_latencyOf_15 rfl fl_X9_45 hB rfl rfl rfl rfl ?_
  refine g_iconst (q := 19) (v := (nI 2)) dX9_latencyOf_18 rfl (by decide) ?_
  refine g_aload_n (q := 20) dX9_latencyOf_19 rfl rfl ?_
  refine gb_getf (q := 23) (j := 0) (i := 0) dX9_latencyOf_20 rfl fl_X9_7 hB rfl rfl rfl rfl ?_
  refine g_iload_n (q := 24) dX9_latencyOf_23 rfl rfl ?_
  refine g_iconst (q := 25) (v := (nI 2)) dX9_latencyOf_24 rfl (by decide) ?_
  refine g_iaddN (q := 26) dX9_latencyOf_25 rfl ?_
  refine gb_ialdN (q := 27) (j := 0) (i := 1) dX9_latencyOf_26 rfl hB rfl rfl rfl (by omega) (by decide) ?_
  refine gb_iastN (q := 28) (j := 0) (i := 11) dX9_latencyOf_27 rfl hB rfl rfl rfl (by omega) (by decide) (fun g hB => ?_)
  refine g_aload_n (q := 29) dX9_latencyOf_28 rfl rfl ?_
  refine gb_getf (q := 32) (j := 0) (i := 0) dX9_latencyOf_29 rfl fl_X9_45 hB rfl rfl rfl rfl ?_
  refine g_iconst (q := 33) (v := (nI 3)) dX9_latencyOf_32 rfl (by decide) ?_
  refine g_aload_n (q := 34) dX9_latencyOf_33 rfl rfl ?_
  refine gb_getf (q := 37) (j := 0) (i := 0) dX9_latencyOf_34 rfl fl_X9_7 hB rfl rfl rfl rfl ?_
  refine g_iload_n (q := 38) dX9_latencyOf_37 rfl rfl ?_
  refine g_iconst (q := 39) (v := (nI 3)) dX9_latencyOf_38 rfl (by decide) ?_
  refine g_iaddN (q := 40) dX9_latencyOf_39 rfl ?_
  refine gb_ialdN (q := 41) (j := 0) (i := 1) dX9_latencyOf_40 rfl hB rfl rfl rfl (by omega) (by decide) ?_
  refine gb_iastN (q := 42) (j := 0) (i := 11) dX9_latencyOf_41 rfl hB rfl rfl rfl (by omega) (by decide) (fun g hB => ?_)
  refine g_aload_n (q := 43) dX9_latencyOf_42 rfl rfl ?_
  refine gb_getf (q := 46) (j := 0) (i := 0) dX9_latencyOf_43 rfl fl_X9_45 hB rfl rfl rfl rfl ?_
  refine g_iconst (q := 47) (v := (nI 4)) dX9_latencyOf_46 rfl (by decide) ?_
  refine g_aload_n (q := 48) dX9_latencyOf_47 rfl rfl ?_
  refine gb_getf (q := 51) (j := 0) (i := 0) dX9_latencyOf_48 rfl fl_X9_7 hB rfl rfl rfl rfl ?_
  refine g_iconst (q := 52) (v := (nI 0)) dX9_latencyOf_51 rfl (by decide) ?_
  refine gb_ialdN (q := 53) (j := 0) (i := 1) dX9_latencyOf_52 rfl hB rfl rfl rfl (by omega) (by decide) ?_
  refine gb_iastN (q := 54) (j := 0) (i := 11) dX9_latencyOf_53 rfl hB rfl rfl rfl (by omega) (by decide) (fun g hB => ?_)
  refine g_iconst (q := 55) (v := (nI 0)) dX9_latencyOf_54 rfl (by decide) ?_
  refine g_istore_n (q := 56) rfl dX9_latencyOf_55 rfl (by decide) rfl ?_
  refine g_iconst (q := 57) (v := (nI 0)) dX9_latencyOf_56 rfl (by decide) ?_
  refine g_istore (q := 59) dX9_latencyOf_57 rfl (by decide) rfl ?_
  refine g_lvs (lv1 := [(4, .int (nI 0)), (3, .int (nI 0)), (0, .ref o), (1, .int (nI s)), (2, .int (nI e))]) ⟨rfl, rfl, rfl, rfl, rfl, trivial⟩ ?_
  exact K l0 0 0 [] (A 10) _ (by omega) (fun j x hj => by rw [Nat.zero_add]; exact hit j x hj) rfl (by omega) hok (fun j x hj => by simp at hj) hB rfl
