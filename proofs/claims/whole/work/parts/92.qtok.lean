/-! the reference: tokens -/
abbrev q_I (I : Nat → Int32) (nx st vl tk : Int32) : Nat → Int32 := va_up (va_up (va_up (va_up I 13 nx) 12 st) 15 vl) 14 tk
def q_o (i : Nat) : Prop := i < 12 ∨ 15 < i
theorem va_ne {f : Nat → Int32} {k i : Nat} {v : Int32} (h : i ≠ k) : va_up f k v i = f i := by unfold va_up; rw [if_neg h]
theorem q_I_o {I : Nat → Int32} {nx st vl tk : Int32} : ∀ i, q_o i → q_I I nx st vl tk i = I i := fun i h => by
  show va_up (va_up (va_up (va_up I 13 nx) 12 st) 15 vl) 14 tk i = I i
  rcases h with h | h
  · rw [va_ne (by omega), va_ne (by omega), va_ne (by omega), va_ne (by omega)]
  · rw [va_ne (by omega), va_ne (by omega), va_ne (by omega), va_ne (by omega)]
def q_kk (k : Nat) : Nat := if k = 0 then 0 else if k = 1 then 4 else if k = 2 then 1 else if k = 3 then 2 else 3
def q_tk (I : Nat → Int32) (t : Tok) : Prop := I 12 = nI (kS t) ∧ I 13 = nI (kE t) ∧ I 14 = nI (q_kk (kK t)) ∧ (kK t = 3 → I 15 = nI (kN t)) ∧ (3 < kK t → I 15 = nI (kK t))
theorem q_le_c : ∀ c, c < 256 → (if nI c < nI 97 then (0 : Int32) else if nI 122 < nI c then 0 else 1) = tB (t_le c) := by decide +kernel
theorem q_di_c : ∀ c, c < 256 → (if nI c < nI 48 then (0 : Int32) else if nI 57 < nI c then 0 else 1) = tB (t_di c) := by decide +kernel
theorem q_sp_c : ∀ c, c < 256 → (t_sp c = true ↔ c = 32 ∨ c = 10) := by decide +kernel
def q_sg (v : Int32) : Int32 := if v = nI 59 then nI 1 else if v = nI 40 then nI 1 else if v = nI 41 then nI 1 else if v = nI 43 then nI 1 else if v = nI 45 then nI 1 else if v = nI 42 then nI 1 else if v = nI 47 then nI 1 else if v = nI 37 then nI 1 else nI 0
theorem q_sg_c : ∀ c, c < 256 → q_sg (nI c) = tB (t_sg c) := by decide +kernel
theorem q_m1 : ∀ c, c < 256 → nI c ≠ -1 := by decide +kernel
theorem t_num_4 {b : Nat → Nat} {p q : Nat} (h : p ≤ q) (h4 : q - p < 4) (hc : 48 ≤ b q) : nI (10 * t_num b p (min 4 (q - p))) + nI (b q) - nI 48 = nI (t_num b p (min 4 (q + 1 - p))) := by
  rw [nI_add, bz_subI (by omega), show min 4 (q + 1 - p) = min 4 (q - p) + 1 by omega, t_num, show p + min 4 (q - p) = q by omega]
  congr 1
  omega
theorem t_num_5 {b : Nat → Nat} {p q : Nat} (h4 : 4 ≤ q - p) : t_num b p (min 4 (q - p)) = t_num b p (min 4 (q + 1 - p)) := by
  rw [show min 4 (q + 1 - p) = min 4 (q - p) by omega]
theorem t_di_48 {c : Nat} (h : t_di c = true) : 48 ≤ c := by
  unfold t_di at h
  simp only [Bool.and_eq_true, decide_eq_true_eq] at h
  exact h.1
set_option maxRecDepth 20000 in
set_option maxHeartbeats 1000000 in
theorem c_mbyteAt0 {l : Launch} {E : bz_E} {L : List Nat} {g : Nat → va_E} {o : Nat} {I : Nat → Int32} {A : Nat → Nat → Int32} {b : Nat → Nat} {n : Nat} {k : Nat} (hb : ∀ i, b i < 256) (hn : n ≤ 600) (h11 : I 11 = nI n) (h9 : ∀ i, i < 600 → A 9 i = s8 (b i)) (hk : k < n) (hH : bz_H L g o (b_Mod E o I A)) : bz_K l E mX9_byteAt 0 [.ref o, .int (nI k)] L g (fun r g1 => r = some (.int (nI (b k))) ∧ g1 = g) := by
  refine bz_K.of (by decide) (bz_le rfl) (fun sz => ?_)
  have hB := bz_B.rf (bz_W.one hH)
  show bz_G _ _ _ _ _ _ _ _ _ _ _ _ 0 [(0, .ref o), (1, .int (nI k))] []
  refine g_iload_n (q := 1) dX9_byteAt_0 rfl rfl ?_
  refine g_aload_n (q := 2) dX9_byteAt_1 rfl rfl ?_
  refine gb_getf (q := 5) (j := 0) (i := 0) dX9_byteAt_2 rfl fl_X9_95 hB rfl rfl rfl rfl ?_
  refine g_eqi (v := nI (n)) (h11) ?_
  refine g_icmpN_ge (q := 8) (t := 21) dX9_byteAt_5 rfl (by decide) (by omega) (by omega) (fun c => absurd c (by omega)) (fun _ => ?_)
  refine g_aload_n (q := 9) dX9_byteAt_8 rfl rfl ?_
  refine gb_getf (q := 12) (j := 0) (i := 0) dX9_byteAt_9 rfl fl_X9_34 hB rfl rfl rfl rfl ?_
  refine g_iload_n (q := 13) dX9_byteAt_12 rfl rfl ?_
  refine gb_baldN (q := 14) (j := 0) (i := 9) dX9_byteAt_13 rfl hB rfl rfl rfl (by omega) (by decide) ?_
  refine g_eqi (v := s8 (b k)) (h9 k (by omega)) ?_
  refine g_sipush (q := 17) (v := (nI 255)) dX9_byteAt_14 rfl (by decide) ?_
  refine g_iand (q := 18) dX9_byteAt_17 rfl ?_
  refine g_eqi (v := nI (b k)) (s8_and _ (hb k)) ?_
  refine g_goto (q := 22) dX9_byteAt_18 (by decide) ?_
  exact g_iret dX9_byteAt_22 rfl (⟨rfl, rfl⟩)
set_option maxRecDepth 20000 in
set_option maxHeartbeats 1000000 in
theorem c_mbyteAt1 {l : Launch} {E : bz_E} {L : List Nat} {g : Nat → va_E} {o : Nat} {I : Nat → Int32} {A : Nat → Nat → Int32} {b : Nat → Nat} {n : Nat} {k : Nat} (hb : ∀ i, b i < 256) (hn : n ≤ 600) (h11 : I 11 = nI n) (h9 : ∀ i, i < 600 → A 9 i = s8 (b i)) (hk : n ≤ k) (hk2 : k ≤ 600) (hH : bz_H L g o (b_Mod E o I A)) : bz_K l E mX9_byteAt 0 [.ref o, .int (nI k)] L g (fun r g1 => r = some (.int (-1)) ∧ g1 = g) := by
  refine bz_K.of (by decide) (bz_le rfl) (fun sz => ?_)
  have hB := bz_B.rf (bz_W.one hH)
  show bz_G _ _ _ _ _ _ _ _ _ _ _ _ 0 [(0, .ref o), (1, .int (nI k))] []
  refine g_iload_n (q := 1) dX9_byteAt_0 rfl rfl ?_
  refine g_aload_n (q := 2) dX9_byteAt_1 rfl rfl ?_
  refine gb_getf (q := 5) (j := 0) (i := 0) dX9_byteAt_2 rfl fl_X9_95 hB rfl rfl rfl rfl ?_
  refine g_eqi (v := nI (n)) (h11) ?_
  refine g_icmpN_ge (q := 8) (t := 21) dX9_byteAt_5 rfl (by decide) (by omega) (by omega) (fun _ => ?_) (fun c => absurd c (by omega))
  refine g_iconst (q := 22) (v := (-1)) dX9_byteAt_21 rfl (by decide) ?_
  exact g_iret dX9_byteAt_22 rfl (⟨rfl, rfl⟩)
set_option maxRecDepth 20000 in
set_option maxHeartbeats 1000000 in
theorem c_misSign {l : Launch} {E : bz_E} {L : List Nat} {g : Nat → va_E} {v : Int32} : bz_K l E mX9_isSign 0 [.int v] L g (fun r g1 => r = some (.int (q_sg v)) ∧ g1 = g) := by
  refine bz_K.of (by decide) (bz_le rfl) (fun sz => ?_)
  show bz_G _ _ _ _ _ _ _ _ _ _ _ _ 0 [(0, .int v)] []
  refine g_iload_n (q := 1) dX9_isSign_0 rfl rfl ?_
  refine g_bipush (q := 3) (v := (nI 59)) dX9_isSign_1 rfl (by decide) ?_
  refine g_icmp_eq (q := 6) (t := 48) dX9_isSign_3 rfl (by decide) (fun c_3 => ?_) (fun c_3 => ?_)
  · refine g_iconst (q := 49) (v := (nI 1)) dX9_isSign_48 rfl (by decide) ?_
    refine g_goto (q := 53) dX9_isSign_49 (by decide) ?_
    exact g_zret dX9_isSign_53 rfl rfl ⟨by first | (simp [q_sg, *]; done) | (subst_vars; decide), rfl⟩
  · refine g_iload_n (q := 7) dX9_isSign_6 rfl rfl ?_
    refine g_bipush (q := 9) (v := (nI 40)) dX9_isSign_7 rfl (by decide) ?_
    refine g_icmp_eq (q := 12) (t := 48) dX9_isSign_9 rfl (by decide) (fun c_9 => ?_) (fun c_9 => ?_)
    · refine g_iconst (q := 49) (v := (nI 1)) dX9_isSign_48 rfl (by decide) ?_
      refine g_goto (q := 53) dX9_isSign_49 (by decide) ?_
      exact g_zret dX9_isSign_53 rfl rfl ⟨by first | (simp [q_sg, *]; done) | (subst_vars; decide), rfl⟩
    · refine g_iload_n (q := 13) dX9_isSign_12 rfl rfl ?_
      refine g_bipush (q := 15) (v := (nI 41)) dX9_isSign_13 rfl (by decide) ?_
      refine g_icmp_eq (q := 18) (t := 48) dX9_isSign_15 rfl (by decide) (fun c_15 => ?_) (fun c_15 => ?_)
      · refine g_iconst (q := 49) (v := (nI 1)) dX9_isSign_48 rfl (by decide) ?_
        refine g_goto (q := 53) dX9_isSign_49 (by decide) ?_
        exact g_zret dX9_isSign_53 rfl rfl ⟨by first | (simp [q_sg, *]; done) | (subst_vars; decide), rfl⟩
      · refine g_iload_n (q := 19) dX9_isSign_18 rfl rfl ?_
        refine g_bipush (q := 21) (v := (nI 43)) dX9_isSign_19 rfl (by decide) ?_
        refine g_icmp_eq (q := 24) (t := 48) dX9_isSign_21 rfl (by decide) (fun c_21 => ?_) (fun c_21 => ?_)
        · refine g_iconst (q := 49) (v := (nI 1)) dX9_isSign_48 rfl (by decide) ?_
          refine g_goto (q := 53) dX9_isSign_49 (by decide) ?_
          exact g_zret dX9_isSign_53 rfl rfl ⟨by first | (simp [q_sg, *]; done) | (subst_vars; decide), rfl⟩
        · refine g_iload_n (q := 25) dX9_isSign_24 rfl rfl ?_
          refine g_bipush (q := 27) (v := (nI 45)) dX9_isSign_25 rfl (by decide) ?_
          refine g_icmp_eq (q := 30) (t := 48) dX9_isSign_27 rfl (by decide) (fun c_27 => ?_) (fun c_27 => ?_)
          · refine g_iconst (q := 49) (v := (nI 1)) dX9_isSign_48 rfl (by decide) ?_
            refine g_goto (q := 53) dX9_isSign_49 (by decide) ?_
            exact g_zret dX9_isSign_53 rfl rfl ⟨by first | (simp [q_sg, *]; done) | (subst_vars; decide), rfl⟩
          · refine g_iload_n (q := 31) dX9_isSign_30 rfl rfl ?_
            refine g_bipush (q := 33) (v := (nI 42)) dX9_isSign_31 rfl (by decide) ?_
            refine g_icmp_eq (q := 36) (t := 48) dX9_isSign_33 rfl (by decide) (fun c_33 => ?_) (fun c_33 => ?_)
            · refine g_iconst (q := 49) (v := (nI 1)) dX9_isSign_48 rfl (by decide) ?_
              refine g_goto (q := 53) dX9_isSign_49 (by decide) ?_
              exact g_zret dX9_isSign_53 rfl rfl ⟨by first | (simp [q_sg, *]; done) | (subst_vars; decide), rfl⟩
            · refine g_iload_n (q := 37) dX9_isSign_36 rfl rfl ?_
              refine g_bipush (q := 39) (v := (nI 47)) dX9_isSign_37 rfl (by decide) ?_
              refine g_icmp_eq (q := 42) (t := 48) dX9_isSign_39 rfl (by decide) (fun c_39 => ?_) (fun c_39 => ?_)
              · refine g_iconst (q := 49) (v := (nI 1)) dX9_isSign_48 rfl (by decide) ?_
                refine g_goto (q := 53) dX9_isSign_49 (by decide) ?_
                exact g_zret dX9_isSign_53 rfl rfl ⟨by first | (simp [q_sg, *]; done) | (subst_vars; decide), rfl⟩
              · refine g_iload_n (q := 43) dX9_isSign_42 rfl rfl ?_
                refine g_bipush (q := 45) (v := (nI 37)) dX9_isSign_43 rfl (by decide) ?_
                refine g_icmp_ne (q := 48) (t := 52) dX9_isSign_45 rfl (by decide) (fun c_45 => ?_) (fun c_45 => ?_)
                · refine g_iconst (q := 53) (v := (nI 0)) dX9_isSign_52 rfl (by decide) ?_
                  exact g_zret dX9_isSign_53 rfl rfl ⟨by first | (simp [q_sg, *]; done) | (subst_vars; decide), rfl⟩
                · refine g_iconst (q := 49) (v := (nI 1)) dX9_isSign_48 rfl (by decide) ?_
                  refine g_goto (q := 53) dX9_isSign_49 (by decide) ?_
                  exact g_zret dX9_isSign_53 rfl rfl ⟨by first | (simp [q_sg, *]; done) | (subst_vars; decide), rfl⟩
theorem q_sg_k : ∀ c, c < 256 → t_sg c = true → q_kk c = 3 := by decide +kernel
set_option maxRecDepth 20000 in
set_option maxHeartbeats 1000000 in
theorem c_madvance {l : Launch} {E : bz_E} {L : List Nat} {g : Nat → va_E} {o : Nat} {I : Nat → Int32} {A : Nat → Nat → Int32} {b : Nat → Nat} {n : Nat} {p : Nat} (hb : ∀ i, b i < 256) (hn : n ≤ 600) (h11 : I 11 = nI n) (h9 : ∀ i, i < 600 → A 9 i = s8 (b i)) (hp : p ≤ n) (h13 : I 13 = nI p) (hH : bz_H L g o (b_Mod E o I A)) : bz_K l E mX9_advance 1 [.ref o] L g (fun r g1 => r = none ∧ ∃ (I1 : Nat → Int32) (t : Tok), bz_B L g g1 [(o, b_Mod E o I1 A)] ∧ t = t_tok b n p ∧ q_tk I1 t ∧ ∀ i, q_o i → I1 i = I i) := by
  refine bz_K.of (by decide) (bz_le rfl) (fun sz => ?_)
  show bz_G _ _ _ _ _ _ _ _ _ _ _ _ 0 [(0, .ref o)] []
  have hB := bz_B.rf (bz_W.one hH)
  have KE1 : ∀ (p1 : Nat) (g1 : Nat → va_E), p1 ≤ n → t_tok b n p = t_at b n p1 → bz_B L g g1 [(o, b_Mod E o (q_I I (nI p1) (I 12) (I 15) (I 14)) A)] → bz_G l E mX9_advance (bz_R 1 0 0) L sz (bz_Fm E L sz (fun r g1 => r = none ∧ ∃ (I1 : Nat → Int32) (t : Tok), bz_B L g g1 [(o, b_Mod E o I1 A)] ∧ t = t_tok b n p ∧ q_tk I1 t ∧ ∀ i, q_o i → I1 i = I i)) sz 0 0 L g1 39 [(0, .ref o)] [] := by
    intro p1 g2 hp1 hT hB
    rcases Nat.lt_or_ge p1 n with hlt | hlt
    · have K2 : t_le (b p1) = true → ∀ (m q : Nat) (g1 : Nat → va_E), n - q = m → p1 ≤ q → q ≤ n → t_end (fun i => t_le (b i)) n q = t_end (fun i => t_le (b i)) n p1 → bz_B L g g1 [(o, b_Mod E o (q_I I (nI q) (nI p1) (nI 0) (I 14)) A)] → bz_G l E mX9_advance (bz_R 1 0 0) L sz (bz_Fm E L sz (fun r g1 => r = none ∧ ∃ (I1 : Nat → Int32) (t : Tok), bz_B L g g1 [(o, b_Mod E o I1 A)] ∧ t = t_tok b n p ∧ q_tk I1 t ∧ ∀ i, q_o i → I1 i = I i)) sz 0 0 L g1 85 [(0, .ref o)] [] := by
        intro hle1
        have hen := t_end_le (f := (fun i => t_le (b i))) (n := n) (p := p1) hp1
        have KE2 : ∀ g1 : Nat → va_E, bz_B L g g1 [(o, b_Mod E o (q_I I (nI (t_end (fun i => t_le (b i)) n p1)) (nI p1) (nI 0) (I 14)) A)] → bz_G l E mX9_advance (bz_R 1 0 0) L sz (bz_Fm E L sz (fun r g1 => r = none ∧ ∃ (I1 : Nat → Int32) (t : Tok), bz_B L g g1 [(o, b_Mod E o I1 A)] ∧ t = t_tok b n p ∧ q_tk I1 t ∧ ∀ i, q_o i → I1 i = I i)) sz 0 0 L g1 116 [(0, .ref o)] [] := by
          intro g3 hB
          refine g_aload_n (q := 117) dX9_advance_116 rfl rfl ?_
          refine g_aload_n (q := 118) dX9_advance_117 rfl rfl ?_
          refine gb_getf (q := 121) (j := 0) (i := 0) dX9_advance_118 rfl fl_X9_98 hB rfl rfl rfl rfl ?_
          refine g_eqi (v := nI (t_end (fun i => t_le (b i)) n p1)) (rfl) ?_
          refine g_aload_n (q := 122) dX9_advance_121 rfl rfl ?_
          refine gb_getf (q := 125) (j := 0) (i := 0) dX9_advance_122 rfl fl_X9_105 hB rfl rfl rfl rfl ?_
          refine g_eqi (v := nI (p1)) (rfl) ?_
          refine g_isubN (q := 126) dX9_advance_125 rfl (by omega) ?_
          refine g_bipush (q := 128) (v := (nI 8)) dX9_advance_126 rfl (by decide) ?_
          refine g_icmpN_le (q := 131) (t := 135) dX9_advance_128 rfl (by decide) (by omega) (by omega) (fun c_128 => ?_) (fun c_128 => ?_)
          · refine g_iconst (q := 136) (v := (nI 1)) dX9_advance_135 rfl (by decide) ?_
            refine gb_putf (q := 139) (j := 0) (i := 0) dX9_advance_136 rfl fp_X9_111 hB rfl rfl rfl (bz_le rfl) rfl rfl (fun g hB => ?_)
            refine g_goto (q := 283) dX9_advance_139 (by decide) ?_
            exact g_vret dX9_advance_283 rfl (⟨rfl, (q_I I (nI (t_end (fun i => t_le (b i)) n p1)) (nI p1) (nI 0) (nI 1)), (2, p1, t_end (fun i => t_le (b i)) n p1, 0), hB, by rw [hT, t_at_1 hlt hle1, if_pos (by omega)], ⟨rfl, rfl, rfl, fun h => absurd h (by show ¬ (2 : Nat) = 3; decide), fun h => absurd h (by show ¬ 3 < 2; decide)⟩, q_I_o⟩)
          · refine g_iconst (q := 132) (v := (nI 4)) dX9_advance_131 rfl (by decide) ?_
            refine g_goto (q := 136) dX9_advance_132 (by decide) ?_
            refine gb_putf (q := 139) (j := 0) (i := 0) dX9_advance_136 rfl fp_X9_111 hB rfl rfl rfl (bz_le rfl) rfl rfl (fun g hB => ?_)
            refine g_goto (q := 283) dX9_advance_139 (by decide) ?_
            exact g_vret dX9_advance_283 rfl (⟨rfl, (q_I I (nI (t_end (fun i => t_le (b i)) n p1)) (nI p1) (nI 0) (nI 4)), (1, p1, t_end (fun i => t_le (b i)) n p1, 0), hB, by rw [hT, t_at_1 hlt hle1, if_neg (by omega)], ⟨rfl, rfl, rfl, fun h => absurd h (by show ¬ (1 : Nat) = 3; decide), fun h => absurd h (by show ¬ 3 < 1; decide)⟩, q_I_o⟩)
        intro m
        induction m with
        | zero =>
          intro q g3 hm h1 h2 he hB
          refine g_aload_n (q := 86) dX9_advance_85 rfl rfl ?_
          refine g_aload_n (q := 87) dX9_advance_86 rfl rfl ?_
          refine gb_getf (q := 90) (j := 0) (i := 0) dX9_advance_87 rfl fl_X9_98 hB rfl rfl rfl rfl ?_
          refine g_eqi (v := nI (q)) (rfl) ?_
          refine gb_callV (q := 93) (j := 0) (i := 0) dX9_advance_90 rfl kv_X9_101 (c_mbyteAt1 (I := (q_I I (nI q) (nI p1) (nI 0) (I 14))) (k := q) hb hn h11 h9 (by omega) (by omega) (hB.1.at (j := 0) rfl)) rfl (by decide) hB rfl rfl rfl rfl (bz_le rfl) (by decide) (by decide) (fun r g1 hQ => ?_)
          obtain ⟨rfl, hg⟩ := hQ
          have hg := hg.symm
          subst hg
          refine g_bipush (q := 95) (v := (nI 97)) dX9_advance_93 rfl (by decide) ?_
          refine g_bipush (q := 97) (v := (nI 122)) dX9_advance_95 rfl (by decide) ?_
          refine g_callS (q := 100) dX9_advance_97 rfl ks_X9_114 rfl (c_mwithin (v := -1) (lo := nI 97) (hi := nI 122)) (by decide) rfl (bz_le rfl) (by decide) (by decide) (fun r g1 hQ => ?_)
          obtain ⟨rfl, hg⟩ := hQ
          have hg := hg.symm
          subst hg
          refine g_eqi (v := nI 0) (by decide) ?_
          refine g_if_eq (q := 103) (t := 116) dX9_advance_100 rfl (by decide) (fun _ => ?_) (fun c => absurd (by decide) c)
          have hq : q = t_end (fun i => t_le (b i)) n p1 := by rw [← he]; exact (t_end_out (f := (fun i => t_le (b i))) (by omega)).symm
          subst hq
          exact KE2 _ hB
        | succ m ih =>
          intro q g3 hm h1 h2 he hB
          refine g_aload_n (q := 86) dX9_advance_85 rfl rfl ?_
          refine g_aload_n (q := 87) dX9_advance_86 rfl rfl ?_
          refine gb_getf (q := 90) (j := 0) (i := 0) dX9_advance_87 rfl fl_X9_98 hB rfl rfl rfl rfl ?_
          refine g_eqi (v := nI (q)) (rfl) ?_
          refine gb_callV (q := 93) (j := 0) (i := 0) dX9_advance_90 rfl kv_X9_101 (c_mbyteAt0 (I := (q_I I (nI q) (nI p1) (nI 0) (I 14))) (k := q) hb hn h11 h9 (by omega) (hB.1.at (j := 0) rfl)) rfl (by decide) hB rfl rfl rfl rfl (bz_le rfl) (by decide) (by decide) (fun r g1 hQ => ?_)
          obtain ⟨rfl, hg⟩ := hQ
          have hg := hg.symm
          subst hg
          refine g_bipush (q := 95) (v := (nI 97)) dX9_advance_93 rfl (by decide) ?_
          refine g_bipush (q := 97) (v := (nI 122)) dX9_advance_95 rfl (by decide) ?_
          refine g_callS (q := 100) dX9_advance_97 rfl ks_X9_114 rfl (c_mwithin (v := nI (b q)) (lo := nI 97) (hi := nI 122)) (by decide) rfl (bz_le rfl) (by decide) (by decide) (fun r g1 hQ => ?_)
          obtain ⟨rfl, hg⟩ := hQ
          have hg := hg.symm
          subst hg
          refine g_eqi (v := tB (t_le (b q))) (q_le_c _ (hb q)) ?_
          refine g_if_eq (q := 103) (t := 116) dX9_advance_100 rfl (by decide) (fun c_100 => ?_) (fun c_100 => ?_)
          · have hq : q = t_end (fun i => t_le (b i)) n p1 := by rw [← he]; exact (t_end_stop (f := (fun i => t_le (b i))) (tB_0 c_100)).symm
            subst hq
            exact KE2 _ hB
          · refine g_aload_n (q := 104) dX9_advance_103 rfl rfl ?_
            refine g_dup (q := 105) dX9_advance_104 rfl rfl ?_
            refine gb_getf (q := 108) (j := 0) (i := 0) dX9_advance_105 rfl fl_X9_98 hB rfl rfl rfl rfl ?_
            refine g_eqi (v := nI (q)) (rfl) ?_
            refine g_iconst (q := 109) (v := (nI 1)) dX9_advance_108 rfl (by decide) ?_
            refine g_iaddN (q := 110) dX9_advance_109 rfl ?_
            refine gb_putf (q := 113) (j := 0) (i := 0) dX9_advance_110 rfl fp_X9_98 hB rfl rfl rfl (bz_le rfl) rfl rfl (fun g hB => ?_)
            refine g_goto (q := 85) dX9_advance_113 (by decide) ?_
            exact ih (q + 1) _ (by omega) (by omega) (by omega) (by rw [← he]; exact (t_end_go (f := (fun i => t_le (b i))) (by omega) (tB_1 c_100)).symm) hB
      have K3 : t_le (b p1) = false → t_di (b p1) = true → ∀ (m q : Nat) (g1 : Nat → va_E), n - q = m → p1 ≤ q → q ≤ n → t_end (fun i => t_di (b i)) n q = t_end (fun i => t_di (b i)) n p1 → bz_B L g g1 [(o, b_Mod E o (q_I I (nI q) (nI p1) (nI (t_num b p1 (min 4 (q - p1)))) (I 14)) A)] → bz_G l E mX9_advance (bz_R 1 0 0) L sz (bz_Fm E L sz (fun r g1 => r = none ∧ ∃ (I1 : Nat → Int32) (t : Tok), bz_B L g g1 [(o, b_Mod E o I1 A)] ∧ t = t_tok b n p ∧ q_tk I1 t ∧ ∀ i, q_o i → I1 i = I i)) sz 0 0 L g1 153 [(0, .ref o)] [] := by
        intro hle1 hdi1
        have hen := t_end_le (f := (fun i => t_di (b i))) (n := n) (p := p1) hp1
        have KE3 : ∀ g1 : Nat → va_E, bz_B L g g1 [(o, b_Mod E o (q_I I (nI (t_end (fun i => t_di (b i)) n p1)) (nI p1) (nI (t_num b p1 (min 4 (t_end (fun i => t_di (b i)) n p1 - p1)))) (I 14)) A)] → bz_G l E mX9_advance (bz_R 1 0 0) L sz (bz_Fm E L sz (fun r g1 => r = none ∧ ∃ (I1 : Nat → Int32) (t : Tok), bz_B L g g1 [(o, b_Mod E o I1 A)] ∧ t = t_tok b n p ∧ q_tk I1 t ∧ ∀ i, q_o i → I1 i = I i)) sz 0 0 L g1 227 [(0, .ref o)] [] := by
          intro g3 hB
          refine g_aload_n (q := 228) dX9_advance_227 rfl rfl ?_
          refine g_aload_n (q := 229) dX9_advance_228 rfl rfl ?_
          refine gb_getf (q := 232) (j := 0) (i := 0) dX9_advance_229 rfl fl_X9_98 hB rfl rfl rfl rfl ?_
          refine g_eqi (v := nI (t_end (fun i => t_di (b i)) n p1)) (rfl) ?_
          refine g_aload_n (q := 233) dX9_advance_232 rfl rfl ?_
          refine gb_getf (q := 236) (j := 0) (i := 0) dX9_advance_233 rfl fl_X9_105 hB rfl rfl rfl rfl ?_
          refine g_eqi (v := nI (p1)) (rfl) ?_
          refine g_isubN (q := 237) dX9_advance_236 rfl (by omega) ?_
          refine g_iconst (q := 238) (v := (nI 4)) dX9_advance_237 rfl (by decide) ?_
          refine g_icmpN_le (q := 241) (t := 245) dX9_advance_238 rfl (by decide) (by omega) (by omega) (fun c_238 => ?_) (fun c_238 => ?_)
          · refine g_iconst (q := 246) (v := (nI 2)) dX9_advance_245 rfl (by decide) ?_
            refine gb_putf (q := 249) (j := 0) (i := 0) dX9_advance_246 rfl fp_X9_111 hB rfl rfl rfl (bz_le rfl) rfl rfl (fun g hB => ?_)
            refine g_goto (q := 283) dX9_advance_249 (by decide) ?_
            exact g_vret dX9_advance_283 rfl (⟨rfl, (q_I I (nI (t_end (fun i => t_di (b i)) n p1)) (nI p1) (nI (t_num b p1 (min 4 (t_end (fun i => t_di (b i)) n p1 - p1)))) (nI 2)), (3, p1, t_end (fun i => t_di (b i)) n p1, t_num b p1 (t_end (fun i => t_di (b i)) n p1 - p1)), hB, by rw [hT, t_at_2 hlt hle1 hdi1, if_pos (by omega)], ⟨rfl, rfl, rfl, fun _ => by show nI (t_num b p1 (min 4 (t_end (fun i => t_di (b i)) n p1 - p1))) = nI (t_num b p1 (t_end (fun i => t_di (b i)) n p1 - p1)); rw [show min 4 (t_end (fun i => t_di (b i)) n p1 - p1) = t_end (fun i => t_di (b i)) n p1 - p1 by omega], fun h => absurd h (by show ¬ 3 < 3; decide)⟩, q_I_o⟩)
          · refine g_iconst (q := 242) (v := (nI 4)) dX9_advance_241 rfl (by decide) ?_
            refine g_goto (q := 246) dX9_advance_242 (by decide) ?_
            refine gb_putf (q := 249) (j := 0) (i := 0) dX9_advance_246 rfl fp_X9_111 hB rfl rfl rfl (bz_le rfl) rfl rfl (fun g hB => ?_)
            refine g_goto (q := 283) dX9_advance_249 (by decide) ?_
            exact g_vret dX9_advance_283 rfl (⟨rfl, (q_I I (nI (t_end (fun i => t_di (b i)) n p1)) (nI p1) (nI (t_num b p1 (min 4 (t_end (fun i => t_di (b i)) n p1 - p1)))) (nI 4)), (1, p1, t_end (fun i => t_di (b i)) n p1, t_num b p1 (t_end (fun i => t_di (b i)) n p1 - p1)), hB, by rw [hT, t_at_2 hlt hle1 hdi1, if_neg (by omega)], ⟨rfl, rfl, rfl, fun h => absurd h (by show ¬ (1 : Nat) = 3; decide), fun h => absurd h (by show ¬ 3 < 1; decide)⟩, q_I_o⟩)
        intro m
        induction m with
        | zero =>
          intro q g3 hm h1 h2 he hB
          refine g_aload_n (q := 154) dX9_advance_153 rfl rfl ?_
          refine g_aload_n (q := 155) dX9_advance_154 rfl rfl ?_
          refine gb_getf (q := 158) (j := 0) (i := 0) dX9_advance_155 rfl fl_X9_98 hB rfl rfl rfl rfl ?_
          refine g_eqi (v := nI (q)) (rfl) ?_
          refine gb_callV (q := 161) (j := 0) (i := 0) dX9_advance_158 rfl kv_X9_101 (c_mbyteAt1 (I := (q_I I (nI q) (nI p1) (nI (t_num b p1 (min 4 (q - p1)))) (I 14))) (k := q) hb hn h11 h9 (by omega) (by omega) (hB.1.at (j := 0) rfl)) rfl (by decide) hB rfl rfl rfl rfl (bz_le rfl) (by decide) (by decide) (fun r g1 hQ => ?_)
          obtain ⟨rfl, hg⟩ := hQ
          have hg := hg.symm
          subst hg
          refine g_bipush (q := 163) (v := (nI 48)) dX9_advance_161 rfl (by decide) ?_
          refine g_bipush (q := 165) (v := (nI 57)) dX9_advance_163 rfl (by decide) ?_
          refine g_callS (q := 168) dX9_advance_165 rfl ks_X9_114 rfl (c_mwithin (v := -1) (lo := nI 48) (hi := nI 57)) (by decide) rfl (bz_le rfl) (by decide) (by decide) (fun r g1 hQ => ?_)
          obtain ⟨rfl, hg⟩ := hQ
          have hg := hg.symm
          subst hg
          refine g_eqi (v := nI 0) (by decide) ?_
          refine g_if_eq (q := 171) (t := 227) dX9_advance_168 rfl (by decide) (fun _ => ?_) (fun c => absurd (by decide) c)
          have hq : q = t_end (fun i => t_di (b i)) n p1 := by rw [← he]; exact (t_end_out (f := (fun i => t_di (b i))) (by omega)).symm
          subst hq
          exact KE3 _ hB
        | succ m ih =>
          intro q g3 hm h1 h2 he hB
          refine g_aload_n (q := 154) dX9_advance_153 rfl rfl ?_
          refine g_aload_n (q := 155) dX9_advance_154 rfl rfl ?_
          refine gb_getf (q := 158) (j := 0) (i := 0) dX9_advance_155 rfl fl_X9_98 hB rfl rfl rfl rfl ?_
          refine g_eqi (v := nI (q)) (rfl) ?_
          refine gb_callV (q := 161) (j := 0) (i := 0) dX9_advance_158 rfl kv_X9_101 (c_mbyteAt0 (I := (q_I I (nI q) (nI p1) (nI (t_num b p1 (min 4 (q - p1)))) (I 14))) (k := q) hb hn h11 h9 (by omega) (hB.1.at (j := 0) rfl)) rfl (by decide) hB rfl rfl rfl rfl (bz_le rfl) (by decide) (by decide) (fun r g1 hQ => ?_)
          obtain ⟨rfl, hg⟩ := hQ
          have hg := hg.symm
          subst hg
          refine g_bipush (q := 163) (v := (nI 48)) dX9_advance_161 rfl (by decide) ?_
          refine g_bipush (q := 165) (v := (nI 57)) dX9_advance_163 rfl (by decide) ?_
          refine g_callS (q := 168) dX9_advance_165 rfl ks_X9_114 rfl (c_mwithin (v := nI (b q)) (lo := nI 48) (hi := nI 57)) (by decide) rfl (bz_le rfl) (by decide) (by decide) (fun r g1 hQ => ?_)
          obtain ⟨rfl, hg⟩ := hQ
          have hg := hg.symm
          subst hg
          refine g_eqi (v := tB (t_di (b q))) (q_di_c _ (hb q)) ?_
          refine g_if_eq (q := 171) (t := 227) dX9_advance_168 rfl (by decide) (fun c_168 => ?_) (fun c_168 => ?_)
          · have hq : q = t_end (fun i => t_di (b i)) n p1 := by rw [← he]; exact (t_end_stop (f := (fun i => t_di (b i))) (tB_0 c_168)).symm
            subst hq
            exact KE3 _ hB
          · refine g_aload_n (q := 172) dX9_advance_171 rfl rfl ?_
            refine g_aload_n (q := 173) dX9_advance_172 rfl rfl ?_
            refine gb_getf (q := 176) (j := 0) (i := 0) dX9_advance_173 rfl fl_X9_98 hB rfl rfl rfl rfl ?_
            refine g_eqi (v := nI (q)) (rfl) ?_
            refine g_aload_n (q := 177) dX9_advance_176 rfl rfl ?_
            refine gb_getf (q := 180) (j := 0) (i := 0) dX9_advance_177 rfl fl_X9_105 hB rfl rfl rfl rfl ?_
            refine g_eqi (v := nI (p1)) (rfl) ?_
            refine g_isubN (q := 181) dX9_advance_180 rfl (by omega) ?_
            refine g_iconst (q := 182) (v := (nI 4)) dX9_advance_181 rfl (by decide) ?_
            refine g_icmpN_ge (q := 185) (t := 207) dX9_advance_182 rfl (by decide) (by omega) (by omega) (fun c_182 => ?_) (fun c_182 => ?_)
            · refine g_aload_n (q := 208) dX9_advance_207 rfl rfl ?_
              refine gb_getf (q := 211) (j := 0) (i := 0) dX9_advance_208 rfl fl_X9_108 hB rfl rfl rfl rfl ?_
              refine g_eqi (v := nI (t_num b p1 (min 4 (q - p1)))) (rfl) ?_
              refine gb_putf (q := 214) (j := 0) (i := 0) dX9_advance_211 rfl fp_X9_108 hB rfl rfl rfl (bz_le rfl) rfl rfl (fun g hB => ?_)
              refine g_aload_n (q := 215) dX9_advance_214 rfl rfl ?_
              refine g_dup (q := 216) dX9_advance_215 rfl rfl ?_
              refine gb_getf (q := 219) (j := 0) (i := 0) dX9_advance_216 rfl fl_X9_98 hB rfl rfl rfl rfl ?_
              refine g_eqi (v := nI (q)) (rfl) ?_
              refine g_iconst (q := 220) (v := (nI 1)) dX9_advance_219 rfl (by decide) ?_
              refine g_iaddN (q := 221) dX9_advance_220 rfl ?_
              refine gb_putf (q := 224) (j := 0) (i := 0) dX9_advance_221 rfl fp_X9_98 hB rfl rfl rfl (bz_le rfl) rfl rfl (fun g hB => ?_)
              refine g_goto (q := 153) dX9_advance_224 (by decide) ?_
              exact ih (q + 1) _ (by omega) (by omega) (by omega) (by rw [← he]; exact (t_end_go (f := (fun i => t_di (b i))) (by omega) (tB_1 c_168)).symm) (by rw [t_num_5 c_182] at hB; exact hB)
            · refine g_bipush (q := 187) (v := (nI 10)) dX9_advance_185 rfl (by decide) ?_
              refine g_aload_n (q := 188) dX9_advance_187 rfl rfl ?_
              refine gb_getf (q := 191) (j := 0) (i := 0) dX9_advance_188 rfl fl_X9_108 hB rfl rfl rfl rfl ?_
              refine g_eqi (v := nI (t_num b p1 (min 4 (q - p1)))) (rfl) ?_
              refine g_imulN (q := 192) dX9_advance_191 rfl ?_
              refine g_aload_n (q := 193) dX9_advance_192 rfl rfl ?_
              refine g_aload_n (q := 194) dX9_advance_193 rfl rfl ?_
              refine gb_getf (q := 197) (j := 0) (i := 0) dX9_advance_194 rfl fl_X9_98 hB rfl rfl rfl rfl ?_
              refine g_eqi (v := nI (q)) (rfl) ?_
              refine gb_callV (q := 200) (j := 0) (i := 0) dX9_advance_197 rfl kv_X9_101 (c_mbyteAt0 (I := (q_I I (nI q) (nI p1) (nI (t_num b p1 (min 4 (q - p1)))) (I 14))) (k := q) hb hn h11 h9 (by omega) (hB.1.at (j := 0) rfl)) rfl (by decide) hB rfl rfl rfl rfl (bz_le rfl) (by decide) (by decide) (fun r g1 hQ => ?_)
              obtain ⟨rfl, hg⟩ := hQ
              have hg := hg.symm
              subst hg
              refine g_iaddN (q := 201) dX9_advance_200 rfl ?_
              refine g_bipush (q := 203) (v := (nI 48)) dX9_advance_201 rfl (by decide) ?_
              refine g_isubN (q := 204) dX9_advance_203 rfl (by have := t_di_48 (tB_1 c_168); omega) ?_
              refine g_eqi (v := nI (t_num b p1 (min 4 (q + 1 - p1)))) (by rw [← t_num_4 h1 c_182 (t_di_48 (tB_1 c_168)), nI_add, bz_subI (by have := t_di_48 (tB_1 c_168); omega)]) ?_
              refine g_goto (q := 211) dX9_advance_204 (by decide) ?_
              refine gb_putf (q := 214) (j := 0) (i := 0) dX9_advance_211 rfl fp_X9_108 hB rfl rfl rfl (bz_le rfl) rfl rfl (fun g hB => ?_)
              refine g_aload_n (q := 215) dX9_advance_214 rfl rfl ?_
              refine g_dup (q := 216) dX9_advance_215 rfl rfl ?_
              refine gb_getf (q := 219) (j := 0) (i := 0) dX9_advance_216 rfl fl_X9_98 hB rfl rfl rfl rfl ?_
              refine g_eqi (v := nI (q)) (rfl) ?_
              refine g_iconst (q := 220) (v := (nI 1)) dX9_advance_219 rfl (by decide) ?_
              refine g_iaddN (q := 221) dX9_advance_220 rfl ?_
              refine gb_putf (q := 224) (j := 0) (i := 0) dX9_advance_221 rfl fp_X9_98 hB rfl rfl rfl (bz_le rfl) rfl rfl (fun g hB => ?_)
              refine g_goto (q := 153) dX9_advance_224 (by decide) ?_
              exact ih (q + 1) _ (by omega) (by omega) (by omega) (by rw [← he]; exact (t_end_go (f := (fun i => t_di (b i))) (by omega) (tB_1 c_168)).symm) hB
      refine g_aload_n (q := 40) dX9_advance_39 rfl rfl ?_
      refine g_aload_n (q := 41) dX9_advance_40 rfl rfl ?_
      refine gb_getf (q := 44) (j := 0) (i := 0) dX9_advance_41 rfl fl_X9_98 hB rfl rfl rfl rfl ?_
      refine g_eqi (v := nI (p1)) (rfl) ?_
      refine gb_putf (q := 47) (j := 0) (i := 0) dX9_advance_44 rfl fp_X9_105 hB rfl rfl rfl (bz_le rfl) rfl rfl (fun g hB => ?_)
      refine g_aload_n (q := 48) dX9_advance_47 rfl rfl ?_
      refine g_iconst (q := 49) (v := (nI 0)) dX9_advance_48 rfl (by decide) ?_
      refine gb_putf (q := 52) (j := 0) (i := 0) dX9_advance_49 rfl fp_X9_108 hB rfl rfl rfl (bz_le rfl) rfl rfl (fun g hB => ?_)
      refine g_aload_n (q := 53) dX9_advance_52 rfl rfl ?_
      refine g_aload_n (q := 54) dX9_advance_53 rfl rfl ?_
      refine gb_getf (q := 57) (j := 0) (i := 0) dX9_advance_54 rfl fl_X9_98 hB rfl rfl rfl rfl ?_
      refine g_eqi (v := nI (p1)) (rfl) ?_
      refine gb_callV (q := 60) (j := 0) (i := 0) dX9_advance_57 rfl kv_X9_101 (c_mbyteAt0 (I := (q_I I (nI p1) (nI p1) (nI 0) (I 14))) (k := p1) hb hn h11 h9 (by omega) (hB.1.at (j := 0) rfl)) rfl (by decide) hB rfl rfl rfl rfl (bz_le rfl) (by decide) (by decide) (fun r g1 hQ => ?_)
      obtain ⟨rfl, hg⟩ := hQ
      have hg := hg.symm
      subst hg
      refine g_istore_n (q := 61) rfl dX9_advance_60 rfl (by decide) rfl ?_
      refine g_iload_n (q := 62) dX9_advance_61 rfl rfl ?_
      refine g_iconst (q := 63) (v := (-1)) dX9_advance_62 rfl (by decide) ?_
      refine g_icmp_ne (q := 66) (t := 74) dX9_advance_63 rfl (by decide) (fun _ => ?_) (fun c => absurd c (q_m1 _ (hb p1)))
      refine g_iload_n (q := 75) dX9_advance_74 rfl rfl ?_
      refine g_bipush (q := 77) (v := (nI 97)) dX9_advance_75 rfl (by decide) ?_
      refine g_bipush (q := 79) (v := (nI 122)) dX9_advance_77 rfl (by decide) ?_
      refine g_callS (q := 82) dX9_advance_79 rfl ks_X9_114 rfl (c_mwithin (v := nI (b p1)) (lo := nI 97) (hi := nI 122)) (by decide) rfl (bz_le rfl) (by decide) (by decide) (fun r g1 hQ => ?_)
      obtain ⟨rfl, hg⟩ := hQ
      have hg := hg.symm
      subst hg
      refine g_eqi (v := tB (t_le (b p1))) (q_le_c _ (hb p1)) ?_
      refine g_if_eq (q := 85) (t := 142) dX9_advance_82 rfl (by decide) (fun c_82 => ?_) (fun c_82 => ?_)
      · refine g_iload_n (q := 143) dX9_advance_142 rfl rfl ?_
        refine g_bipush (q := 145) (v := (nI 48)) dX9_advance_143 rfl (by decide) ?_
        refine g_bipush (q := 147) (v := (nI 57)) dX9_advance_145 rfl (by decide) ?_
        refine g_callS (q := 150) dX9_advance_147 rfl ks_X9_114 rfl (c_mwithin (v := nI (b p1)) (lo := nI 48) (hi := nI 57)) (by decide) rfl (bz_le rfl) (by decide) (by decide) (fun r g1 hQ => ?_)
        obtain ⟨rfl, hg⟩ := hQ
        have hg := hg.symm
        subst hg
        refine g_eqi (v := tB (t_di (b p1))) (q_di_c _ (hb p1)) ?_
        refine g_if_eq (q := 153) (t := 252) dX9_advance_150 rfl (by decide) (fun c_150 => ?_) (fun c_150 => ?_)
        · refine g_aload_n (q := 253) dX9_advance_252 rfl rfl ?_
          refine g_dup (q := 254) dX9_advance_253 rfl rfl ?_
          refine gb_getf (q := 257) (j := 0) (i := 0) dX9_advance_254 rfl fl_X9_98 hB rfl rfl rfl rfl ?_
          refine g_eqi (v := nI (p1)) (rfl) ?_
          refine g_iconst (q := 258) (v := (nI 1)) dX9_advance_257 rfl (by decide) ?_
          refine g_iaddN (q := 259) dX9_advance_258 rfl ?_
          refine gb_putf (q := 262) (j := 0) (i := 0) dX9_advance_259 rfl fp_X9_98 hB rfl rfl rfl (bz_le rfl) rfl rfl (fun g hB => ?_)
          refine g_aload_n (q := 263) dX9_advance_262 rfl rfl ?_
          refine g_iload_n (q := 264) dX9_advance_263 rfl rfl ?_
          refine gb_putf (q := 267) (j := 0) (i := 0) dX9_advance_264 rfl fp_X9_108 hB rfl rfl rfl (bz_le rfl) rfl rfl (fun g hB => ?_)
          refine g_aload_n (q := 268) dX9_advance_267 rfl rfl ?_
          refine g_iload_n (q := 269) dX9_advance_268 rfl rfl ?_
          refine g_callS (q := 272) dX9_advance_269 rfl ks_X9_118 rfl (c_misSign (v := nI (b p1))) (by decide) rfl (bz_le rfl) (by decide) (by decide) (fun r g1 hQ => ?_)
          obtain ⟨rfl, hg⟩ := hQ
          have hg := hg.symm
          subst hg
          refine g_eqi (v := tB (t_sg (b p1))) (q_sg_c _ (hb p1)) ?_
          refine g_if_eq (q := 275) (t := 279) dX9_advance_272 rfl (by decide) (fun c_272 => ?_) (fun c_272 => ?_)
          · refine g_iconst (q := 280) (v := (nI 4)) dX9_advance_279 rfl (by decide) ?_
            refine gb_putf (q := 283) (j := 0) (i := 0) dX9_advance_280 rfl fp_X9_111 hB rfl rfl rfl (bz_le rfl) rfl rfl (fun g hB => ?_)
            exact g_vret dX9_advance_283 rfl (⟨rfl, (q_I I (nI (p1 + 1)) (nI p1) (nI (b p1)) (nI 4)), (1, p1, p1 + 1, 0), hB, by rw [hT, t_at_4 hlt (tB_0 c_82) (tB_0 c_150) (tB_0 c_272)], ⟨rfl, rfl, rfl, fun h => absurd h (by show ¬ (1 : Nat) = 3; decide), fun h => absurd h (by show ¬ 3 < 1; decide)⟩, q_I_o⟩)
          · refine g_iconst (q := 276) (v := (nI 3)) dX9_advance_275 rfl (by decide) ?_
            refine g_goto (q := 280) dX9_advance_276 (by decide) ?_
            refine gb_putf (q := 283) (j := 0) (i := 0) dX9_advance_280 rfl fp_X9_111 hB rfl rfl rfl (bz_le rfl) rfl rfl (fun g hB => ?_)
            exact g_vret dX9_advance_283 rfl (⟨rfl, (q_I I (nI (p1 + 1)) (nI p1) (nI (b p1)) (nI 3)), (b p1, p1, p1 + 1, 0), hB, by rw [hT, t_at_3 hlt (tB_0 c_82) (tB_0 c_150) (tB_1 c_272)], ⟨rfl, rfl, by show nI 3 = nI (q_kk (b p1)); rw [q_sg_k _ (hb p1) (tB_1 c_272)], fun h => absurd h (t_sg_3 _ (hb p1) (tB_1 c_272)), fun _ => rfl⟩, q_I_o⟩)
        · refine g_lvs (lv1 := [(0, .ref o)]) ⟨rfl, trivial⟩ ?_
          exact K3 (tB_0 c_82) (tB_1 c_150) _ p1 _ rfl (Nat.le_refl _) (by omega) rfl (by rw [show min 4 (p1 - p1) = 0 by omega]; exact hB)
      · refine g_lvs (lv1 := [(0, .ref o)]) ⟨rfl, trivial⟩ ?_
        exact K2 (tB_1 c_82) _ p1 _ rfl (Nat.le_refl _) (by omega) rfl hB
    ·
      refine g_aload_n (q := 40) dX9_advance_39 rfl rfl ?_
      refine g_aload_n (q := 41) dX9_advance_40 rfl rfl ?_
      refine gb_getf (q := 44) (j := 0) (i := 0) dX9_advance_41 rfl fl_X9_98 hB rfl rfl rfl rfl ?_
      refine g_eqi (v := nI (p1)) (rfl) ?_
      refine gb_putf (q := 47) (j := 0) (i := 0) dX9_advance_44 rfl fp_X9_105 hB rfl rfl rfl (bz_le rfl) rfl rfl (fun g hB => ?_)
      refine g_aload_n (q := 48) dX9_advance_47 rfl rfl ?_
      refine g_iconst (q := 49) (v := (nI 0)) dX9_advance_48 rfl (by decide) ?_
      refine gb_putf (q := 52) (j := 0) (i := 0) dX9_advance_49 rfl fp_X9_108 hB rfl rfl rfl (bz_le rfl) rfl rfl (fun g hB => ?_)
      refine g_aload_n (q := 53) dX9_advance_52 rfl rfl ?_
      refine g_aload_n (q := 54) dX9_advance_53 rfl rfl ?_
      refine gb_getf (q := 57) (j := 0) (i := 0) dX9_advance_54 rfl fl_X9_98 hB rfl rfl rfl rfl ?_
      refine g_eqi (v := nI (p1)) (rfl) ?_
      refine gb_callV (q := 60) (j := 0) (i := 0) dX9_advance_57 rfl kv_X9_101 (c_mbyteAt1 (I := (q_I I (nI p1) (nI p1) (nI 0) (I 14))) (k := p1) hb hn h11 h9 (by omega) (by omega) (hB.1.at (j := 0) rfl)) rfl (by decide) hB rfl rfl rfl rfl (bz_le rfl) (by decide) (by decide) (fun r g1 hQ => ?_)
      obtain ⟨rfl, hg⟩ := hQ
      have hg := hg.symm
      subst hg
      refine g_istore_n (q := 61) rfl dX9_advance_60 rfl (by decide) rfl ?_
      refine g_iload_n (q := 62) dX9_advance_61 rfl rfl ?_
      refine g_iconst (q := 63) (v := (-1)) dX9_advance_62 rfl (by decide) ?_
      refine g_icmp_ne (q := 66) (t := 74) dX9_advance_63 rfl (by decide) (fun c => absurd c (fun q => q rfl)) (fun _ => ?_)
      refine g_aload_n (q := 67) dX9_advance_66 rfl rfl ?_
      refine g_iconst (q := 68) (v := (nI 0)) dX9_advance_67 rfl (by decide) ?_
      refine gb_putf (q := 71) (j := 0) (i := 0) dX9_advance_68 rfl fp_X9_111 hB rfl rfl rfl (bz_le rfl) rfl rfl (fun g hB => ?_)
      refine g_goto (q := 283) dX9_advance_71 (by decide) ?_
      exact g_vret dX9_advance_283 rfl (⟨rfl, (q_I I (nI p1) (nI p1) (nI 0) (nI 0)), (0, p1, p1, 0), hB, by rw [hT, t_at_0 hlt], ⟨rfl, rfl, rfl, fun h => absurd h (by show ¬ (0 : Nat) = 3; decide), fun h => absurd h (by show ¬ 3 < 0; decide)⟩, q_I_o⟩)
  have hle := t_end_le (f := (fun i => t_sp (b i))) (n := n) (p := p) hp
  have K : ∀ (m q : Nat) (g1 : Nat → va_E), n - q = m → p ≤ q → q ≤ n → t_end (fun i => t_sp (b i)) n q = t_end (fun i => t_sp (b i)) n p → bz_B L g g1 [(o, b_Mod E o (q_I I (nI q) (I 12) (I 15) (I 14)) A)] → bz_G l E mX9_advance (bz_R 1 0 0) L sz (bz_Fm E L sz (fun r g1 => r = none ∧ ∃ (I1 : Nat → Int32) (t : Tok), bz_B L g g1 [(o, b_Mod E o I1 A)] ∧ t = t_tok b n p ∧ q_tk I1 t ∧ ∀ i, q_o i → I1 i = I i)) sz 0 0 L g1 0 [(0, .ref o)] [] := by
    intro m
    induction m with
    | zero =>
      intro q g2 hm h1 h2 he hB
      refine g_aload_n (q := 1) dX9_advance_0 rfl rfl ?_
      refine g_aload_n (q := 2) dX9_advance_1 rfl rfl ?_
      refine gb_getf (q := 5) (j := 0) (i := 0) dX9_advance_2 rfl fl_X9_98 hB rfl rfl rfl rfl ?_
      refine g_eqi (v := nI (q)) (rfl) ?_
      refine gb_callV (q := 8) (j := 0) (i := 0) dX9_advance_5 rfl kv_X9_101 (c_mbyteAt1 (I := (q_I I (nI q) (I 12) (I 15) (I 14))) (k := q) hb hn h11 h9 (by omega) (by omega) (hB.1.at (j := 0) rfl)) rfl (by decide) hB rfl rfl rfl rfl (bz_le rfl) (by decide) (by decide) (fun r g1 hQ => ?_)
      obtain ⟨rfl, hg⟩ := hQ
      have hg := hg.symm
      subst hg
      refine g_bipush (q := 10) (v := (nI 32)) dX9_advance_8 rfl (by decide) ?_
      refine g_icmp_eq (q := 13) (t := 26) dX9_advance_10 rfl (by decide) (fun c => absurd c (by decide)) (fun _ => ?_)
      refine g_aload_n (q := 14) dX9_advance_13 rfl rfl ?_
      refine g_aload_n (q := 15) dX9_advance_14 rfl rfl ?_
      refine gb_getf (q := 18) (j := 0) (i := 0) dX9_advance_15 rfl fl_X9_98 hB rfl rfl rfl rfl ?_
      refine g_eqi (v := nI (q)) (rfl) ?_
      refine gb_callV (q := 21) (j := 0) (i := 0) dX9_advance_18 rfl kv_X9_101 (c_mbyteAt1 (I := (q_I I (nI q) (I 12) (I 15) (I 14))) (k := q) hb hn h11 h9 (by omega) (by omega) (hB.1.at (j := 0) rfl)) rfl (by decide) hB rfl rfl rfl rfl (bz_le rfl) (by decide) (by decide) (fun r g1 hQ => ?_)
      obtain ⟨rfl, hg⟩ := hQ
      have hg := hg.symm
      subst hg
      refine g_bipush (q := 23) (v := (nI 10)) dX9_advance_21 rfl (by decide) ?_
      refine g_icmp_ne (q := 26) (t := 39) dX9_advance_23 rfl (by decide) (fun _ => ?_) (fun c => absurd c (by decide))
      have hq : q = t_end (fun i => t_sp (b i)) n p := by rw [← he]; exact (t_end_out (f := (fun i => t_sp (b i))) (by omega)).symm
      subst hq
      exact KE1 _ _ hle.2 rfl hB
    | succ m ih =>
      intro q g2 hm h1 h2 he hB
      refine g_aload_n (q := 1) dX9_advance_0 rfl rfl ?_
      refine g_aload_n (q := 2) dX9_advance_1 rfl rfl ?_
      refine gb_getf (q := 5) (j := 0) (i := 0) dX9_advance_2 rfl fl_X9_98 hB rfl rfl rfl rfl ?_
      refine g_eqi (v := nI (q)) (rfl) ?_
      refine gb_callV (q := 8) (j := 0) (i := 0) dX9_advance_5 rfl kv_X9_101 (c_mbyteAt0 (I := (q_I I (nI q) (I 12) (I 15) (I 14))) (k := q) hb hn h11 h9 (by omega) (hB.1.at (j := 0) rfl)) rfl (by decide) hB rfl rfl rfl rfl (bz_le rfl) (by decide) (by decide) (fun r g1 hQ => ?_)
      obtain ⟨rfl, hg⟩ := hQ
      have hg := hg.symm
      subst hg
      refine g_bipush (q := 10) (v := (nI 32)) dX9_advance_8 rfl (by decide) ?_
      refine g_icmpN_eq (q := 13) (t := 26) dX9_advance_10 rfl (by decide) (by have := hb q; omega) (by omega) (fun c_10 => ?_) (fun c_10 => ?_)
      · refine g_aload_n (q := 27) dX9_advance_26 rfl rfl ?_
        refine g_dup (q := 28) dX9_advance_27 rfl rfl ?_
        refine gb_getf (q := 31) (j := 0) (i := 0) dX9_advance_28 rfl fl_X9_98 hB rfl rfl rfl rfl ?_
        refine g_eqi (v := nI (q)) (rfl) ?_
        refine g_iconst (q := 32) (v := (nI 1)) dX9_advance_31 rfl (by decide) ?_
        refine g_iaddN (q := 33) dX9_advance_32 rfl ?_
        refine gb_putf (q := 36) (j := 0) (i := 0) dX9_advance_33 rfl fp_X9_98 hB rfl rfl rfl (bz_le rfl) rfl rfl (fun g hB => ?_)
        refine g_goto (q := 0) dX9_advance_36 (by decide) ?_
        exact ih (q + 1) _ (by omega) (by omega) (by omega) (by rw [← he]; exact (t_end_go (f := (fun i => t_sp (b i))) (by omega) ((q_sp_c _ (hb q)).mpr (by omega))).symm) hB
      · refine g_aload_n (q := 14) dX9_advance_13 rfl rfl ?_
        refine g_aload_n (q := 15) dX9_advance_14 rfl rfl ?_
        refine gb_getf (q := 18) (j := 0) (i := 0) dX9_advance_15 rfl fl_X9_98 hB rfl rfl rfl rfl ?_
        refine g_eqi (v := nI (q)) (rfl) ?_
        refine gb_callV (q := 21) (j := 0) (i := 0) dX9_advance_18 rfl kv_X9_101 (c_mbyteAt0 (I := (q_I I (nI q) (I 12) (I 15) (I 14))) (k := q) hb hn h11 h9 (by omega) (hB.1.at (j := 0) rfl)) rfl (by decide) hB rfl rfl rfl rfl (bz_le rfl) (by decide) (by decide) (fun r g1 hQ => ?_)
        obtain ⟨rfl, hg⟩ := hQ
        have hg := hg.symm
        subst hg
        refine g_bipush (q := 23) (v := (nI 10)) dX9_advance_21 rfl (by decide) ?_
        refine g_icmpN_ne (q := 26) (t := 39) dX9_advance_23 rfl (by decide) (by have := hb q; omega) (by omega) (fun c_23 => ?_) (fun c_23 => ?_)
        · have hq : q = t_end (fun i => t_sp (b i)) n p := by rw [← he]; exact (t_end_stop (f := (fun i => t_sp (b i))) (by rw [Bool.eq_false_iff]; intro hc; have := (q_sp_c _ (hb q)).mp hc; omega)).symm
          subst hq
          exact KE1 _ _ hle.2 rfl hB
        · refine g_aload_n (q := 27) dX9_advance_26 rfl rfl ?_
          refine g_dup (q := 28) dX9_advance_27 rfl rfl ?_
          refine gb_getf (q := 31) (j := 0) (i := 0) dX9_advance_28 rfl fl_X9_98 hB rfl rfl rfl rfl ?_
          refine g_eqi (v := nI (q)) (rfl) ?_
          refine g_iconst (q := 32) (v := (nI 1)) dX9_advance_31 rfl (by decide) ?_
          refine g_iaddN (q := 33) dX9_advance_32 rfl ?_
          refine gb_putf (q := 36) (j := 0) (i := 0) dX9_advance_33 rfl fp_X9_98 hB rfl rfl rfl (bz_le rfl) rfl rfl (fun g hB => ?_)
          refine g_goto (q := 0) dX9_advance_36 (by decide) ?_
          exact ih (q + 1) _ (by omega) (by omega) (by omega) (by rw [← he]; exact (t_end_go (f := (fun i => t_sp (b i))) (by omega) ((q_sp_c _ (hb q)).mpr (by omega))).symm) hB
  exact K _ p _ rfl (Nat.le_refl _) hp rfl (by rw [← h13]; exact hB)

