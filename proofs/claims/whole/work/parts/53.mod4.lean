/-! the reference: its rows as mathematics; stores -/
theorem m_tx_mv {N N' : Nat → Int32} {e e' : Nat} {x : Tx} (hV : (tV x).length ≤ 4) (h : m_tx N e x) (hf : ∀ j, j < 15 → N' (e' + j) = N (e + j)) : m_tx N' e' x := by
  obtain ⟨h0, h1, h2, h3, h5, hw, h7, h8⟩ := h
  refine ⟨(hf 0 (by omega)).trans h0, (hf 1 (by omega)).trans h1, (hf 2 (by omega)).trans h2, (hf 3 (by omega)).trans h3, (hf 5 (by omega)).trans h5, fun hk j v hj => ?_, fun hk => ⟨(hf 7 (by omega)).trans (h7 hk).1, fun j v hj => ?_⟩, fun hk => (hf 14 (by omega)).trans (h8 hk)⟩
  · rw [hf 4 (by omega)]; exact hw hk j v hj
  · have hl := (List.getElem?_eq_some_iff.mp hj).1
    have := hf (8 + j) (by omega)
    rw [show e' + 8 + j = e' + (8 + j) by omega, this, show e + (8 + j) = e + 8 + j by omega]
    exact (h7 hk).2 j v hj
theorem m_wt_mv {N N' : Nat → Int32} {e e' : Nat} {x : Tx} (hV : (tV x).length ≤ 4) (h : m_wt N e x) (hf : ∀ j, j < 15 → N' (e' + j) = N (e + j)) : m_wt N' e' x := ⟨m_tx_mv hV h.1 hf, (hf 6 (by omega)).trans h.2⟩
theorem m_hd_mv {N N' : Nat → Int32} {e e' : Nat} {x : Tx} (hV : (tV x).length ≤ 4) (h : m_hd N e x) (hf : ∀ j, j < 15 → N' (e' + j) = N (e + j)) : m_hd N' e' x := by
  obtain ⟨h1, ac, lt, a1, a2, a3, a4⟩ := h
  exact ⟨m_tx_mv hV h1 hf, ac, lt, (hf 12 (by omega)).trans a1, (hf 13 (by omega)).trans a2, a3, a4⟩
theorem m_tg_fr {N N' : Nat → Int32} {s : Nat} {T : Tg} (h : m_tg N s T) (hf : ∀ j, 43 + 56 * s ≤ j → j < 99 + 56 * s → N' j = N j) : m_tg N' s T := by
  intro t ht
  obtain ⟨h0, h1, h2, h3, h4, h5⟩ := h t ht
  exact ⟨by rw [hf _ (by omega) (by omega)]; exact h0, fun hs => by rw [hf _ (by omega) (by omega)]; exact h1 hs, by rw [hf _ (by omega) (by omega)]; exact h2, h3, h4, fun i hi => by rw [hf _ (by omega) (by omega)]; exact h5 i hi⟩
/-- the places of a side -/
def m_rg (s j : Nat) : Prop := j = 1 + s ∨ j = 3 + s ∨ j = 5 + s ∨ j = 7 + s ∨ j = 9 + s ∨ (11 + 16 * s ≤ j ∧ j < 27 + 16 * s) ∨ (43 + 56 * s ≤ j ∧ j < 99 + 56 * s) ∨ (155 + 480 * s ≤ j ∧ j < 635 + 480 * s) ∨ (1115 + 480 * s ≤ j ∧ j < 1595 + 480 * s)
theorem m_sd_fr {N N' : Nat → Int32} {s : Nat} {P : Po} (h : m_sd N s P) (hf : ∀ j, m_rg s j → N' j = N j) : m_sd N' s P := by
  obtain ⟨h1, h2, h3, h4, h5, h6, h7, h8, h9, h10, h11⟩ := h
  have l1 := h10.len
  have l2 := h11.len
  refine ⟨(hf _ (by unfold m_rg; omega)).trans h1, (hf _ (by unfold m_rg; omega)).trans h2, (hf _ (by unfold m_rg; omega)).trans h3, (hf _ (by unfold m_rg; omega)).trans h4, (hf _ (by unfold m_rg; omega)).trans h5, fun i hi => (hf _ (by unfold m_rg; omega)).trans (h6 i hi), m_tg_fr h7 (fun j a b => hf j (by unfold m_rg; omega)), fun k x hx => ?_, fun k x hx => ?_, h10, h11⟩
  · have hl := (List.getElem?_eq_some_iff.mp hx).1
    exact m_wt_mv (h10.1 x (List.mem_of_getElem? hx)).2.2.2.2.2.2.1 (h8 k x hx) (fun j hj => hf _ (by unfold m_rg; omega))
  · have hl := (List.getElem?_eq_some_iff.mp hx).1
    exact m_hd_mv (h11.1 x (List.mem_of_getElem? hx)).2.2.2.2.2.2.1 (h9 k x hx) (fun j hj => hf _ (by unfold m_rg; omega))
theorem m_tg_sto {N : Nat → Int32} {s t j : Nat} {T : Tg} {v : Int32} (h : m_tg N s T) (ht : t < 8) (hj : j < 4) : m_tg (upd (upd N (43 + 7 * (8 * s + t) + 3 + j) v) (43 + 7 * (8 * s + t) + 2) (N (43 + 7 * (8 * s + t) + 2) ||| (nI 1 <<< (nI j &&& 31)))) s (T.1, T.2.1, va_up T.2.2.1 t (T.2.2.1 t ||| 2 ^ j), upd T.2.2.2 (t * 4 + j) v) := by
  intro u hu
  obtain ⟨h0, h1, h2, h3, h4, h5⟩ := h u hu
  by_cases e : u = t
  · subst e
    obtain ⟨b1, b2⟩ := bz_or16 _ h3 j hj
    refine ⟨by rw [upd_ne (by omega), upd_ne (by omega)]; exact h0, fun hs => by rw [upd_ne (by omega), upd_ne (by omega)]; exact h1 hs, ?_, ?_, h4, fun i hi => ?_⟩
    · rw [upd_eq, h2, b1]; simp [va_up]
    · simpa [va_up] using b2
    · by_cases ei : i = j
      · subst ei; rw [upd_ne (by omega), upd_eq]; exact (upd_eq (f := T.2.2.2)).symm
      · rw [upd_ne (by omega), upd_ne (by omega), h5 i hi]; exact (upd_ne (f := T.2.2.2) (by omega)).symm
  · refine ⟨by rw [upd_ne (by omega), upd_ne (by omega)]; exact h0, fun hs => by rw [upd_ne (by omega), upd_ne (by omega)]; exact h1 hs, ?_, ?_, h4, fun i hi => ?_⟩
    · rw [upd_ne (by omega), upd_ne (by omega), h2]; simp [va_up, e]
    · simpa [va_up, e] using h3
    · rw [upd_ne (by omega), upd_ne (by omega), h5 i hi]; exact (upd_ne (f := T.2.2.2) (by omega)).symm
theorem s_sto_1 {t : Nat} : ∀ (vs : List Int32) (i : Nat) (T : Tg), (s_sto t i vs T).1 = T.1 ∧ (s_sto t i vs T).2.1 = T.2.1
  | [], _, _ => ⟨rfl, rfl⟩
  | v :: r, i, T => by rw [s_sto]; exact s_sto_1 r (i + 1) _
theorem m_tg_c2 {N : Nat → Int32} {s t : Nat} {T : Tg} (h : m_tg N s T) (ht : t < 8) (hst : T.1 t ≠ 0) : m_tg (upd N (43 + 7 * (8 * s + t) + 0) (nI 2)) s (va_up T.1 t 2, T.2) := by
  intro u hu
  obtain ⟨h0, h1, h2, h3, h4, h5⟩ := h u hu
  by_cases e : u = t
  · subst e
    refine ⟨by rw [upd_eq]; simp [va_up], fun _ => by rw [upd_ne (by omega)]; exact h1 hst, by rw [upd_ne (by omega)]; exact h2, h3, h4, fun i hi => by rw [upd_ne (by omega)]; exact h5 i hi⟩
  · refine ⟨by rw [upd_ne (by omega), h0]; simp [va_up, e], fun hs => by rw [upd_ne (by omega)]; exact h1 (by simpa [va_up, e] using hs), by rw [upd_ne (by omega)]; exact h2, h3, h4, fun i hi => by rw [upd_ne (by omega)]; exact h5 i hi⟩

set_option maxRecDepth 20000 in
set_option maxHeartbeats 1000000 in
theorem c_mstores {l : Launch} {E : bz_E} {L : List Nat} {g : Nat → va_E} {o : Nat} {I : Nat → Int32} {A : Nat → Nat → Int32} {s e : Nat} {x : Tx} {T : Tg} (hs : s < 2) (he : 1115 ≤ e ∧ e + 15 ≤ 2075) (hx : m_tx (A 1) e x) (hk : tK x = 3) (hxo : s_ok x) (hT : m_tg (A 1) s T) (hst : T.1 (tT x) ≠ 0) (hle : v_pc ((s_sto (tT x) (tO x) (tV x) T).2.2.1 (tT x)) ≤ T.2.1 (tT x)) (hH : bz_H L g o (b_Mod E o I A)) : bz_K l E mX9_stores 1 [.ref o, .int (nI s), .int (nI e)] L g (fun r g1 => r = none ∧ ∃ N1 : Nat → Int32, bz_B L g g1 [(o, b_Mod E o I (va_up A 1 N1))] ∧ m_tg N1 s (s_cpl (tT x) (s_sto (tT x) (tO x) (tV x) T)) ∧ ∀ j, ¬ (43 + 56 * s ≤ j ∧ j < 99 + 56 * s) → N1 j = A 1 j) := by
  refine bz_K.of (by decide) (bz_le rfl) (fun sz => ?_)
  show bz_G _ _ _ _ _ _ _ _ _ _ _ _ 0 [(0, .ref o), (1, .int (nI s)), (2, .int (nI e))] []
  have hB := bz_B.rf (bz_W.one hH)
  obtain ⟨x1, x2, x3, x4, x5, x6, x7, x8, x9, x10⟩ := id hxo
  obtain ⟨y1, y2⟩ := x9 hk
  have K : ∀ (m i : Nat) (N : Nat → Int32) (g1 : Nat → va_E), i + m = tW x → bz_B L g g1 [(o, b_Mod E o I (va_up A 1 N))] → m_tg N s (s_sto (tT x) (tO x) ((tV x).take i) T) → (∀ j, ¬ (43 + 56 * s ≤ j ∧ j < 99 + 56 * s) → N j = A 1 j) → bz_G l E mX9_stores (bz_R 1 0 0) L sz (bz_Fm E L sz (fun r g1 => r = none ∧ ∃ N1 : Nat → Int32, bz_B L g g1 [(o, b_Mod E o I (va_up A 1 N1))] ∧ m_tg N1 s (s_cpl (tT x) (s_sto (tT x) (tO x) (tV x) T)) ∧ ∀ j, ¬ (43 + 56 * s ≤ j ∧ j < 99 + 56 * s) → N1 j = A 1 j)) sz 0 0 L g1 16 [(4, .int (nI i)), (3, .int (nI (43 + 7 * (8 * s + tT x)))), (0, .ref o), (1, .int (nI s)), (2, .int (nI e))] [] := by
    intro m
    induction m with
    | zero =>
      intro i N g hi hB hTg hag
      refine g_iload (q := 18) dX9_stores_16 rfl rfl ?_
      refine g_aload_n (q := 19) dX9_stores_18 rfl rfl ?_
      refine gb_getf (q := 22) (j := 0) (i := 0) dX9_stores_19 rfl fl_X9_7 hB rfl rfl rfl rfl ?_
      refine g_iload_n (q := 23) dX9_stores_22 rfl rfl ?_
      refine g_iconst (q := 24) (v := (nI 3)) dX9_stores_23 rfl (by decide) ?_
      refine g_iaddN (q := 25) dX9_stores_24 rfl ?_
      refine gb_ialdN (q := 26) (j := 0) (i := 1) dX9_stores_25 rfl hB rfl rfl rfl (by omega) (by decide) ?_
      refine g_eqi (v := nI (tW x)) ((hag _ (by omega)).trans hx.2.2.2.1) ?_
      refine g_icmpN_ge (q := 29) (t := 93) dX9_stores_26 rfl (by decide) (by omega) (by omega) (fun _ => ?_) (fun c => absurd c (by omega))
      rw [List.take_of_length_le (by omega)] at hTg
      obtain ⟨q0, q1, q2, q3, q4, q5⟩ := hTg (tT x) x2
      have q1 := q1 (by rw [(s_sto_1 _ _ _).1]; exact hst)
      rw [(s_sto_1 _ _ _).2] at q1 q4
      refine g_aload_n (q := 94) dX9_stores_93 rfl rfl ?_
      refine gb_getf (q := 97) (j := 0) (i := 0) dX9_stores_94 rfl fl_X9_7 hB rfl rfl rfl rfl ?_
      refine g_iload_n (q := 98) dX9_stores_97 rfl rfl ?_
      refine g_iconst (q := 99) (v := (nI 2)) dX9_stores_98 rfl (by decide) ?_
      refine g_iaddN (q := 100) dX9_stores_99 rfl ?_
      refine gb_ialdN (q := 101) (j := 0) (i := 1) dX9_stores_100 rfl hB rfl rfl rfl (by omega) (by decide) ?_
      refine g_eqi (v := nI ((s_sto (tT x) (tO x) (tV x) T).2.2.1 (tT x))) (q2) ?_
      refine g_callS (q := 104) dX9_stores_101 rfl ks_X9_255 rfl (c_mbits q3) (by decide) rfl (bz_le rfl) (by decide) (by decide) (fun r g1 hQ => ?_)
      obtain ⟨rfl, hg⟩ := hQ
      have hg := hg.symm
      subst hg
      refine g_aload_n (q := 105) dX9_stores_104 rfl rfl ?_
      refine gb_getf (q := 108) (j := 0) (i := 0) dX9_stores_105 rfl fl_X9_7 hB rfl rfl rfl rfl ?_
      refine g_iload_n (q := 109) dX9_stores_108 rfl rfl ?_
      refine g_iconst (q := 110) (v := (nI 1)) dX9_stores_109 rfl (by decide) ?_
      refine g_iaddN (q := 111) dX9_stores_110 rfl ?_
      refine gb_ialdN (q := 112) (j := 0) (i := 1) dX9_stores_111 rfl hB rfl rfl rfl (by omega) (by decide) ?_
      refine g_eqi (v := nI (T.2.1 (tT x))) (q1) ?_
      refine g_icmpN_ne (q := 115) (t := 124) dX9_stores_112 rfl (by decide) (v_pcl _) (by omega) (fun c_112 => ?_) (fun c_112 => ?_)
      · exact g_vret dX9_stores_124 rfl (⟨rfl, _, hB, by first | (unfold s_cpl; rw [(s_sto_1 _ _ _).2, if_pos (by omega)]; exact hTg) | (unfold s_cpl; rw [(s_sto_1 _ _ _).2, if_neg (by omega)]; exact m_tg_c2 hTg x2 (by rw [(s_sto_1 _ _ _).1]; exact hst)), fun j hj => by first | exact hag j hj | exact (upd_ne (by omega)).trans (hag j hj)⟩)
      · refine g_aload_n (q := 116) dX9_stores_115 rfl rfl ?_
        refine gb_getf (q := 119) (j := 0) (i := 0) dX9_stores_116 rfl fl_X9_7 hB rfl rfl rfl rfl ?_
        refine g_iload_n (q := 120) dX9_stores_119 rfl rfl ?_
        refine g_iconst (q := 121) (v := (nI 0)) dX9_stores_120 rfl (by decide) ?_
        refine g_iaddN (q := 122) dX9_stores_121 rfl ?_
        refine g_iconst (q := 123) (v := (nI 2)) dX9_stores_122 rfl (by decide) ?_
        refine gb_iastN (q := 124) (j := 0) (i := 1) dX9_stores_123 rfl hB rfl rfl rfl (by omega) (by decide) (fun g hB => ?_)
        exact g_vret dX9_stores_124 rfl (⟨rfl, _, hB, by first | (unfold s_cpl; rw [(s_sto_1 _ _ _).2, if_pos (by omega)]; exact hTg) | (unfold s_cpl; rw [(s_sto_1 _ _ _).2, if_neg (by omega)]; exact m_tg_c2 hTg x2 (by rw [(s_sto_1 _ _ _).1]; exact hst)), fun j hj => by first | exact hag j hj | exact (upd_ne (by omega)).trans (hag j hj)⟩)
    | succ m ih =>
      intro i N g hi hB hTg hag
      obtain ⟨v, hv⟩ : ∃ v, (tV x)[i]? = some v := ⟨_, List.getElem?_eq_getElem (by omega)⟩
      refine g_iload (q := 18) dX9_stores_16 rfl rfl ?_
      refine g_aload_n (q := 19) dX9_stores_18 rfl rfl ?_
      refine gb_getf (q := 22) (j := 0) (i := 0) dX9_stores_19 rfl fl_X9_7 hB rfl rfl rfl rfl ?_
      refine g_iload_n (q := 23) dX9_stores_22 rfl rfl ?_
      refine g_iconst (q := 24) (v := (nI 3)) dX9_stores_23 rfl (by decide) ?_
      refine g_iaddN (q := 25) dX9_stores_24 rfl ?_
      refine gb_ialdN (q := 26) (j := 0) (i := 1) dX9_stores_25 rfl hB rfl rfl rfl (by omega) (by decide) ?_
      refine g_eqi (v := nI (tW x)) ((hag _ (by omega)).trans hx.2.2.2.1) ?_
      refine g_icmpN_ge (q := 29) (t := 93) dX9_stores_26 rfl (by decide) (by omega) (by omega) (fun c => absurd c (by omega)) (fun _ => ?_)
      refine g_aload_n (q := 30) dX9_stores_29 rfl rfl ?_
      refine gb_getf (q := 33) (j := 0) (i := 0) dX9_stores_30 rfl fl_X9_7 hB rfl rfl rfl rfl ?_
      refine g_iload_n (q := 34) dX9_stores_33 rfl rfl ?_
      refine g_iconst (q := 35) (v := (nI 3)) dX9_stores_34 rfl (by decide) ?_
      refine g_iaddN (q := 36) dX9_stores_35 rfl ?_
      refine g_aload_n (q := 37) dX9_stores_36 rfl rfl ?_
      refine gb_getf (q := 40) (j := 0) (i := 0) dX9_stores_37 rfl fl_X9_7 hB rfl rfl rfl rfl ?_
      refine g_iload_n (q := 41) dX9_stores_40 rfl rfl ?_
      refine g_bipush (q := 43) (v := (nI 7)) dX9_stores_41 rfl (by decide) ?_
      refine g_iaddN (q := 44) dX9_stores_43 rfl ?_
      refine gb_ialdN (q := 45) (j := 0) (i := 1) dX9_stores_44 rfl hB rfl rfl rfl (by omega) (by decide) ?_
      refine g_eqi (v := nI (tO x)) ((hag _ (by omega)).trans (hx.2.2.2.2.2.2.1 hk).1) ?_
      refine g_iaddN (q := 46) dX9_stores_45 rfl ?_
      refine g_iload (q := 48) dX9_stores_46 rfl rfl ?_
      refine g_iaddN (q := 49) dX9_stores_48 rfl ?_
      refine g_aload_n (q := 50) dX9_stores_49 rfl rfl ?_
      refine gb_getf (q := 53) (j := 0) (i := 0) dX9_stores_50 rfl fl_X9_7 hB rfl rfl rfl rfl ?_
      refine g_iload_n (q := 54) dX9_stores_53 rfl rfl ?_
      refine g_bipush (q := 56) (v := (nI 8)) dX9_stores_54 rfl (by decide) ?_
      refine g_iaddN (q := 57) dX9_stores_56 rfl ?_
      refine g_iload (q := 59) dX9_stores_57 rfl rfl ?_
      refine g_iaddN (q := 60) dX9_stores_59 rfl ?_
      refine gb_ialdN (q := 61) (j := 0) (i := 1) dX9_stores_60 rfl hB rfl rfl rfl (by omega) (by decide) ?_
      refine g_eqi (v := v) ((hag _ (by omega)).trans ((hx.2.2.2.2.2.2.1 hk).2 i v hv)) ?_
      refine gb_iastN (q := 62) (j := 0) (i := 1) dX9_stores_61 rfl hB rfl rfl rfl (by omega) (by decide) (fun g hB => ?_)
      refine g_aload_n (q := 63) dX9_stores_62 rfl rfl ?_
      refine gb_getf (q := 66) (j := 0) (i := 0) dX9_stores_63 rfl fl_X9_7 hB rfl rfl rfl rfl ?_
      refine g_iload_n (q := 67) dX9_stores_66 rfl rfl ?_
      refine g_iconst (q := 68) (v := (nI 2)) dX9_stores_67 rfl (by decide) ?_
      refine g_iaddN (q := 69) dX9_stores_68 rfl ?_
      refine g_dup2 (q := 70) dX9_stores_69 rfl rfl rfl ?_
      refine gb_ialdN (q := 71) (j := 0) (i := 1) dX9_stores_70 rfl hB rfl rfl rfl (by omega) (by decide) ?_
      refine g_eqi (v := N (43 + 7 * (8 * s + tT x) + 2)) (upd_ne (by omega)) ?_
      refine g_iconst (q := 72) (v := (nI 1)) dX9_stores_71 rfl (by decide) ?_
      refine g_aload_n (q := 73) dX9_stores_72 rfl rfl ?_
      refine gb_getf (q := 76) (j := 0) (i := 0) dX9_stores_73 rfl fl_X9_7 hB rfl rfl rfl rfl ?_
      refine g_iload_n (q := 77) dX9_stores_76 rfl rfl ?_
      refine g_bipush (q := 79) (v := (nI 7)) dX9_stores_77 rfl (by decide) ?_
      refine g_iaddN (q := 80) dX9_stores_79 rfl ?_
      refine gb_ialdN (q := 81) (j := 0) (i := 1) dX9_stores_80 rfl hB rfl rfl rfl (by omega) (by decide) ?_
      refine g_eqi (v := nI (tO x)) ((upd_ne (by omega)).trans ((hag _ (by omega)).trans (hx.2.2.2.2.2.2.1 hk).1)) ?_
      refine g_iload (q := 83) dX9_stores_81 rfl rfl ?_
      refine g_iaddN (q := 84) dX9_stores_83 rfl ?_
      refine g_ishl (q := 85) dX9_stores_84 rfl ?_
      refine g_ior (q := 86) dX9_stores_85 rfl ?_
      refine gb_iastN (q := 87) (j := 0) (i := 1) dX9_stores_86 rfl hB rfl rfl rfl (by omega) (by decide) (fun g hB => ?_)
      refine g_iincN (q := 90) (c := 1) dX9_stores_87 rfl (by decide) rfl rfl (by decide) ?_
      refine g_goto (q := 16) dX9_stores_90 (by decide) ?_
      refine g_lvs (lv1 := [(4, .int (nI (i + 1))), (3, .int (nI (43 + 7 * (8 * s + tT x)))), (0, .ref o), (1, .int (nI s)), (2, .int (nI e))]) ⟨rfl, rfl, rfl, rfl, rfl, trivial⟩ ?_
      refine ih (i + 1) (upd (upd N (43 + 7 * (8 * s + tT x) + 3 + tO x + i) v) (43 + 7 * (8 * s + tT x) + 2) (N (43 + 7 * (8 * s + tT x) + 2) ||| (nI 1 <<< (nI (tO x + i) &&& 31)))) _ (by omega) hB ?_ (fun j hj => by rw [upd_ne (by omega), upd_ne (by omega)]; exact hag j hj)
      rw [s_stoS (tV x) (tO x) i T hv]
      have := m_tg_sto (v := v) hTg x2 (show tO x + i < 4 by omega)
      rw [show 43 + 7 * (8 * s + tT x) + 3 + (tO x + i) = 43 + 7 * (8 * s + tT x) + 3 + tO x + i by omega] at this
      exact this
  refine g_iload_n (q := 1) dX9_stores_0 rfl rfl ?_
  refine g_aload_n (q := 2) dX9_stores_1 rfl rfl ?_
  refine gb_getf (q := 5) (j := 0) (i := 0) dX9_stores_2 rfl fl_X9_7 hB rfl rfl rfl rfl ?_
  refine g_iload_n (q := 6) dX9_stores_5 rfl rfl ?_
  refine g_iconst (q := 7) (v := (nI 1)) dX9_stores_6 rfl (by decide) ?_
  refine g_iaddN (q := 8) dX9_stores_7 rfl ?_
  refine gb_ialdN (q := 9) (j := 0) (i := 1) dX9_stores_8 rfl hB rfl rfl rfl (by omega) (by decide) ?_
  refine g_eqi (v := nI (tT x)) (hx.2.1.trans (by rw [tI, if_neg (by omega)])) ?_
  refine g_callS (q := 12) dX9_stores_9 rfl ks_X9_252 rfl (c_tagged) (by decide) rfl (bz_le rfl) (by decide) (by decide) (fun r g1 hQ => ?_)
  obtain ⟨rfl, hg⟩ := hQ
  have hg := hg.symm
  subst hg
  refine g_istore_n (q := 13) rfl dX9_stores_12 rfl (by decide) rfl ?_
  refine g_iconst (q := 14) (v := (nI 0)) dX9_stores_13 rfl (by decide) ?_
  refine g_istore (q := 16) dX9_stores_14 rfl (by decide) rfl ?_
  refine g_lvs (lv1 := [(4, .int (nI 0)), (3, .int (nI (43 + 7 * (8 * s + tT x)))), (0, .ref o), (1, .int (nI s)), (2, .int (nI e))]) ⟨rfl, rfl, rfl, rfl, rfl, trivial⟩ ?_
  exact K (tW x) 0 (A 1) g (by omega) hB (by simpa [s_sto] using hT) (fun j _ => rfl)
