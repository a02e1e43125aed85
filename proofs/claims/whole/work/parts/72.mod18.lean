/-! the reference: post, read, configure, release -/
def s_ent (k t : Nat) (rx : Bool) (ad wd now : Nat) (vs : List Int32) : Tx := (k, t, rx, ad, wd, now, 0, vs)
def s_vals (v : Int32) (wd : Nat) : List Int32 := (List.range wd).map (fun j => v + nI j)
theorem s_vals_len (v : Int32) (wd : Nat) : (s_vals v wd).length = wd := by simp [s_vals]
theorem s_vals_at {v y : Int32} {wd j : Nat} (h : (s_vals v wd)[j]? = some y) : v + nI j = y := by
  unfold s_vals at h
  have hl := (List.getElem?_eq_some_iff.mp h).1
  rw [List.length_map, List.length_range] at hl
  rw [List.getElem?_map, List.getElem?_range hl] at h
  simpa using h
def s_bgn (T : Tg) (t w : Nat) : Tg := (va_up T.1 t 1, va_up T.2.1 t w, va_up T.2.2.1 t 0, T.2.2.2)
def s_rls (T : Tg) (t : Nat) : Tg := (va_up T.1 t 0, va_up T.2.1 t 0, va_up T.2.2.1 t 0, T.2.2.2)
/-- the lowest free tag -/
def s_fl (f : Nat → Nat) : Nat → Nat → Option Nat
  | 0, _ => none
  | m + 1, i => if f i = 0 then some i else s_fl f m (i + 1)
theorem m_ent_wt {N : Nat → Int32} {s n k t ad wd now : Nat} {rx : Bool} {v : Int32} {vs : List Int32} (hs : s < 2) (hk : k < 3) (h0 : N 0 = nI now) (hv : k ≠ 1 → vs = s_vals v wd) : m_wt (upd (m_cm N s n (nI k) (if k = 0 then -1 else nI t) (nI ad) (nI wd) (tB rx)) (155 + 480 * s + 15 * n + 4) v) (155 + 480 * s + 15 * n) (s_ent k t rx ad wd now vs) := by
  obtain ⟨c0, c1, c2, c3, c5, c6, -, c14⟩ := m_cm_at (N := N) (s := s) (n := n) (k := nI k) (tag := if k = 0 then -1 else nI t) (ad := nI ad) (wd := nI wd) (rel := tB rx) hs
  refine ⟨⟨(upd_ne (by omega)).trans c0, (upd_ne (by omega)).trans (c1.trans rfl), (upd_ne (by omega)).trans c2, (upd_ne (by omega)).trans c3, (upd_ne (by omega)).trans c5, fun h j y hj => ?_, fun h => absurd (show k = 3 from h) (by omega), fun _ => (upd_ne (by omega)).trans c14⟩, (upd_ne (by omega)).trans (c6.trans h0)⟩
  have h : k = 0 ∨ k = 2 := h
  rw [upd_eq]
  have hj : vs[j]? = some y := hj
  rw [hv (by omega)] at hj
  exact s_vals_at hj
theorem s_ent_ok {k t ad wd now : Nat} {rx : Bool} {vs : List Int32} (hk : k < 3) (ht : t < 8) (ha : ad + wd ≤ 16) (hw : wd ≤ 4) (hn : now < 100000) (hv : k ≠ 1 → vs.length = wd) (hv1 : k = 1 → vs = []) : s_ok (s_ent k t rx ad wd now vs) := by
  refine ⟨show k < 4 by omega, ht, ha, hw, hn, Nat.zero_le _, ?_, fun h => hv (by have h : k = 0 ∨ k = 2 := h; omega), fun h => absurd (show k = 3 from h) (by omega), fun _ => Nat.zero_le _⟩
  show vs.length ≤ 4
  by_cases c : k = 1
  · rw [hv1 c]; exact Nat.zero_le _
  · rw [hv c]; exact hw
theorem m_tg_set {N N' : Nat → Int32} {s t a b : Nat} {T : Tg} (h : m_tg N s T) (ht : t < 8) (h0 : N' (43 + 7 * (8 * s + t) + 0) = nI a) (h1 : a ≠ 0 → N' (43 + 7 * (8 * s + t) + 1) = nI b) (h2 : N' (43 + 7 * (8 * s + t) + 2) = nI 0) (hb : b ≤ 4) (hag : ∀ j, ¬ (43 + 7 * (8 * s + t) ≤ j ∧ j < 43 + 7 * (8 * s + t) + 3) → N' j = N j) : m_tg N' s (va_up T.1 t a, va_up T.2.1 t b, va_up T.2.2.1 t 0, T.2.2.2) := by
  intro u hu
  obtain ⟨g0, g1, g2, g3, g4, g5⟩ := h u hu
  by_cases c : u = t
  · subst c
    have e0 : va_up T.1 u a u = a := if_pos rfl
    have e1 : va_up T.2.1 u b u = b := if_pos rfl
    have e2 : va_up T.2.2.1 u 0 u = 0 := if_pos rfl
    dsimp only
    rw [e0, e1, e2]
    exact ⟨h0, h1, h2, by decide, hb, fun i hi => (hag _ (by omega)).trans (g5 i hi)⟩
  · have e0 : va_up T.1 t a u = T.1 u := if_neg c
    have e1 : va_up T.2.1 t b u = T.2.1 u := if_neg c
    have e2 : va_up T.2.2.1 t 0 u = T.2.2.1 u := if_neg c
    dsimp only
    rw [e0, e1, e2]
    exact ⟨(hag _ (by omega)).trans g0, fun h => (hag _ (by omega)).trans (g1 h), (hag _ (by omega)).trans g2, g3, g4, fun i hi => (hag _ (by omega)).trans (g5 i hi)⟩

set_option maxRecDepth 20000 in
set_option maxHeartbeats 1000000 in
theorem c_misRange1 {l : Launch} {E : bz_E} {L : List Nat} {g : Nat → va_E} {v w : Int32} (hb : m_bad v 16 = true ∨ (if w < nI 1 then (0 : Int32) else if nI 4 < w then 0 else 1) = nI 0 ∨ ∃ a b : Nat, v = nI a ∧ w = nI b ∧ a < 16 ∧ b ≤ 4 ∧ 16 < a + b) : bz_K l E mX9_isRange 1 [.int v, .int w] L g (fun r g1 => r = some (.int (nI 0)) ∧ g1 = g) := by
  refine bz_K.of (by decide) (bz_le rfl) (fun sz => ?_)
  show bz_G _ _ _ _ _ _ _ _ _ _ _ _ 0 [(0, .int v), (1, .int w)] []
  by_cases h1 : m_bad v 16 = true
  ·
    refine g_iload_n (q := 1) dX9_isRange_0 rfl rfl ?_
    refine g_iconst (q := 2) (v := (nI 0)) dX9_isRange_1 rfl (by decide) ?_
    refine g_bipush (q := 4) (v := (nI 15)) dX9_isRange_2 rfl (by decide) ?_
    refine g_callS (q := 7) dX9_isRange_4 rfl ks_X9_114 rfl (c_mwithin) (by decide) rfl (bz_le rfl) (by decide) (by decide) (fun r g1 hQ => ?_)
    obtain ⟨rfl, hg⟩ := hQ
    have hg := hg.symm
    subst hg
    refine g_eqi (v := nI (0)) (m_bad1 (m := 16) h1) ?_
    refine g_ifN_eq (q := 10) (t := 31) dX9_isRange_7 rfl (by decide) (by omega) (fun _ => ?_) (fun c => absurd c (by omega))
    refine g_iconst (q := 32) (v := (nI 0)) dX9_isRange_31 rfl (by decide) ?_
    exact g_zret dX9_isRange_32 rfl rfl ⟨rfl, rfl⟩
  · obtain ⟨a, ha, rfl⟩ := m_badE (by decide) (Bool.eq_false_iff.mpr h1)
    rcases hb with hb | hb | ⟨a2, b, e1, rfl, ha2, hb4, hab⟩
    · exact absurd hb h1
    ·
      refine g_iload_n (q := 1) dX9_isRange_0 rfl rfl ?_
      refine g_iconst (q := 2) (v := (nI 0)) dX9_isRange_1 rfl (by decide) ?_
      refine g_bipush (q := 4) (v := (nI 15)) dX9_isRange_2 rfl (by decide) ?_
      refine g_callS (q := 7) dX9_isRange_4 rfl ks_X9_114 rfl (c_mwithin) (by decide) rfl (bz_le rfl) (by decide) (by decide) (fun r g1 hQ => ?_)
      obtain ⟨rfl, hg⟩ := hQ
      have hg := hg.symm
      subst hg
      refine g_eqi (v := nI (1)) (m_bad0 (m := 16) ha (by decide)) ?_
      refine g_ifN_eq (q := 10) (t := 31) dX9_isRange_7 rfl (by decide) (by omega) (fun c => absurd c (by omega)) (fun _ => ?_)
      refine g_iload_n (q := 11) dX9_isRange_10 rfl rfl ?_
      refine g_iconst (q := 12) (v := (nI 1)) dX9_isRange_11 rfl (by decide) ?_
      refine g_iconst (q := 13) (v := (nI 4)) dX9_isRange_12 rfl (by decide) ?_
      refine g_callS (q := 16) dX9_isRange_13 rfl ks_X9_114 rfl (c_mwithin) (by decide) rfl (bz_le rfl) (by decide) (by decide) (fun r g1 hQ => ?_)
      obtain ⟨rfl, hg⟩ := hQ
      have hg := hg.symm
      subst hg
      refine g_eqi (v := nI (0)) (hb) ?_
      refine g_ifN_eq (q := 19) (t := 31) dX9_isRange_16 rfl (by decide) (by omega) (fun _ => ?_) (fun c => absurd c (by omega))
      refine g_iconst (q := 32) (v := (nI 0)) dX9_isRange_31 rfl (by decide) ?_
      exact g_zret dX9_isRange_32 rfl rfl ⟨rfl, rfl⟩
    · have e2 := congrArg Int32.toInt e1
      rw [nI_toInt (by omega), nI_toInt (by omega)] at e2
      have e3 : a = a2 := by omega
      subst e3
      refine g_iload_n (q := 1) dX9_isRange_0 rfl rfl ?_
      refine g_iconst (q := 2) (v := (nI 0)) dX9_isRange_1 rfl (by decide) ?_
      refine g_bipush (q := 4) (v := (nI 15)) dX9_isRange_2 rfl (by decide) ?_
      refine g_callS (q := 7) dX9_isRange_4 rfl ks_X9_114 rfl (c_mwithin) (by decide) rfl (bz_le rfl) (by decide) (by decide) (fun r g1 hQ => ?_)
      obtain ⟨rfl, hg⟩ := hQ
      have hg := hg.symm
      subst hg
      refine g_eqi (v := nI (1)) (m_bad0 (m := 16) ha (by decide)) ?_
      refine g_ifN_eq (q := 10) (t := 31) dX9_isRange_7 rfl (by decide) (by omega) (fun c => absurd c (by omega)) (fun _ => ?_)
      refine g_iload_n (q := 11) dX9_isRange_10 rfl rfl ?_
      refine g_iconst (q := 12) (v := (nI 1)) dX9_isRange_11 rfl (by decide) ?_
      refine g_iconst (q := 13) (v := (nI 4)) dX9_isRange_12 rfl (by decide) ?_
      refine g_callS (q := 16) dX9_isRange_13 rfl ks_X9_114 rfl (c_mwithin) (by decide) rfl (bz_le rfl) (by decide) (by decide) (fun r g1 hQ => ?_)
      obtain ⟨rfl, hg⟩ := hQ
      have hg := hg.symm
      subst hg
      refine g_eqi (v := nI (1)) (m_wi (lo := 1) (hi := 4) (by omega) (by omega) (by decide)) ?_
      refine g_ifN_eq (q := 19) (t := 31) dX9_isRange_16 rfl (by decide) (by omega) (fun c => absurd c (by omega)) (fun _ => ?_)
      refine g_iload_n (q := 20) dX9_isRange_19 rfl rfl ?_
      refine g_iload_n (q := 21) dX9_isRange_20 rfl rfl ?_
      refine g_iaddN (q := 22) dX9_isRange_21 rfl ?_
      refine g_bipush (q := 24) (v := (nI 16)) dX9_isRange_22 rfl (by decide) ?_
      refine g_icmpN_gt (q := 27) (t := 31) dX9_isRange_24 rfl (by decide) (by omega) (by omega) (fun _ => ?_) (fun c => absurd c (by omega))
      refine g_iconst (q := 32) (v := (nI 0)) dX9_isRange_31 rfl (by decide) ?_
      exact g_zret dX9_isRange_32 rfl rfl ⟨rfl, rfl⟩
set_option maxRecDepth 20000 in
set_option maxHeartbeats 1000000 in
theorem c_misRange0 {l : Launch} {E : bz_E} {L : List Nat} {g : Nat → va_E} {a b : Nat} (ha : a < 16) (hb : 1 ≤ b ∧ b ≤ 4) (hab : a + b ≤ 16) : bz_K l E mX9_isRange 1 [.int (nI a), .int (nI b)] L g (fun r g1 => r = some (.int (nI 1)) ∧ g1 = g) := by
  refine bz_K.of (by decide) (bz_le rfl) (fun sz => ?_)
  show bz_G _ _ _ _ _ _ _ _ _ _ _ _ 0 [(0, .int (nI a)), (1, .int (nI b))] []
  refine g_iload_n (q := 1) dX9_isRange_0 rfl rfl ?_
  refine g_iconst (q := 2) (v := (nI 0)) dX9_isRange_1 rfl (by decide) ?_
  refine g_bipush (q := 4) (v := (nI 15)) dX9_isRange_2 rfl (by decide) ?_
  refine g_callS (q := 7) dX9_isRange_4 rfl ks_X9_114 rfl (c_mwithin) (by decide) rfl (bz_le rfl) (by decide) (by decide) (fun r g1 hQ => ?_)
  obtain ⟨rfl, hg⟩ := hQ
  have hg := hg.symm
  subst hg
  refine g_eqi (v := nI (1)) (m_bad0 (m := 16) ha (by decide)) ?_
  refine g_ifN_eq (q := 10) (t := 31) dX9_isRange_7 rfl (by decide) (by omega) (fun c => absurd c (by omega)) (fun _ => ?_)
  refine g_iload_n (q := 11) dX9_isRange_10 rfl rfl ?_
  refine g_iconst (q := 12) (v := (nI 1)) dX9_isRange_11 rfl (by decide) ?_
  refine g_iconst (q := 13) (v := (nI 4)) dX9_isRange_12 rfl (by decide) ?_
  refine g_callS (q := 16) dX9_isRange_13 rfl ks_X9_114 rfl (c_mwithin) (by decide) rfl (bz_le rfl) (by decide) (by decide) (fun r g1 hQ => ?_)
  obtain ⟨rfl, hg⟩ := hQ
  have hg := hg.symm
  subst hg
  refine g_eqi (v := nI (1)) (m_wi (lo := 1) (hi := 4) (by omega) (by omega) (by decide)) ?_
  refine g_ifN_eq (q := 19) (t := 31) dX9_isRange_16 rfl (by decide) (by omega) (fun c => absurd c (by omega)) (fun _ => ?_)
  refine g_iload_n (q := 20) dX9_isRange_19 rfl rfl ?_
  refine g_iload_n (q := 21) dX9_isRange_20 rfl rfl ?_
  refine g_iaddN (q := 22) dX9_isRange_21 rfl ?_
  refine g_bipush (q := 24) (v := (nI 16)) dX9_isRange_22 rfl (by decide) ?_
  refine g_icmpN_gt (q := 27) (t := 31) dX9_isRange_24 rfl (by decide) (by omega) (by omega) (fun c => absurd c (by omega)) (fun _ => ?_)
  refine g_iconst (q := 28) (v := (nI 1)) dX9_isRange_27 rfl (by decide) ?_
  refine g_goto (q := 32) dX9_isRange_28 (by decide) ?_
  exact g_zret dX9_isRange_32 rfl rfl ⟨rfl, rfl⟩
set_option maxRecDepth 20000 in
set_option maxHeartbeats 1000000 in
theorem c_mfreeTag {l : Launch} {E : bz_E} {L : List Nat} {g : Nat → va_E} {o : Nat} {I : Nat → Int32} {A : Nat → Nat → Int32} {s c : Nat} {P : Po} (hs : s < 2) (hP : m_sd (A 1) s P) (hc : A 6 1 = nI c) (hc8 : c ≤ 8) (h2 : ∀ t, t < 8 → P.2.2.1.1 t ≤ 2) (hH : bz_H L g o (b_Mod E o I A)) : bz_K l E mX9_freeTag 1 [.ref o, .int (nI s)] L g (fun r g1 => r = some (.int (match s_fl P.2.2.1.1 c 0 with | some t => nI t | none => -1)) ∧ g1 = g) := by
  refine bz_K.of (by decide) (bz_le rfl) (fun sz => ?_)
  show bz_G _ _ _ _ _ _ _ _ _ _ _ _ 0 [(0, .ref o), (1, .int (nI s))] []
  have hB := bz_B.rf (bz_W.one hH)
  have K : ∀ (m i : Nat), i + m = c → s_fl P.2.2.1.1 m i = s_fl P.2.2.1.1 c 0 → bz_G l E mX9_freeTag (bz_R 1 0 0) L sz (bz_Fm E L sz (fun r g1 => r = some (.int (match s_fl P.2.2.1.1 c 0 with | some t => nI t | none => -1)) ∧ g1 = g)) sz 0 0 L g 2 [(2, .int (nI i)), (0, .ref o), (1, .int (nI s))] [] := by
    intro m
    induction m with
    | zero =>
      intro i hi hf
      refine g_iload_n (q := 3) dX9_freeTag_2 rfl rfl ?_
      refine g_aload_n (q := 4) dX9_freeTag_3 rfl rfl ?_
      refine gb_getf (q := 7) (j := 0) (i := 0) dX9_freeTag_4 rfl fl_X9_25 hB rfl rfl rfl rfl ?_
      refine g_iconst (q := 8) (v := (nI 1)) dX9_freeTag_7 rfl (by decide) ?_
      refine gb_ialdN (q := 9) (j := 0) (i := 6) dX9_freeTag_8 rfl hB rfl rfl rfl (by omega) (by decide) ?_
      refine g_eqi (v := nI (c)) (hc) ?_
      refine g_icmpN_ge (q := 12) (t := 35) dX9_freeTag_9 rfl (by decide) (by omega) (by omega) (fun _ => ?_) (fun c => absurd c (by omega))
      refine g_iconst (q := 36) (v := (-1)) dX9_freeTag_35 rfl (by decide) ?_
      exact g_iret dX9_freeTag_36 rfl (⟨by rw [← hf]; rfl, rfl⟩)
    | succ m ih =>
      intro i hi hf
      have h2i := h2 i (by omega)
      rw [s_fl] at hf
      by_cases hz : P.2.2.1.1 i = 0
      · rw [if_pos hz] at hf
        refine g_iload_n (q := 3) dX9_freeTag_2 rfl rfl ?_
        refine g_aload_n (q := 4) dX9_freeTag_3 rfl rfl ?_
        refine gb_getf (q := 7) (j := 0) (i := 0) dX9_freeTag_4 rfl fl_X9_25 hB rfl rfl rfl rfl ?_
        refine g_iconst (q := 8) (v := (nI 1)) dX9_freeTag_7 rfl (by decide) ?_
        refine gb_ialdN (q := 9) (j := 0) (i := 6) dX9_freeTag_8 rfl hB rfl rfl rfl (by omega) (by decide) ?_
        refine g_eqi (v := nI (c)) (hc) ?_
        refine g_icmpN_ge (q := 12) (t := 35) dX9_freeTag_9 rfl (by decide) (by omega) (by omega) (fun c => absurd c (by omega)) (fun _ => ?_)
        refine g_aload_n (q := 13) dX9_freeTag_12 rfl rfl ?_
        refine gb_getf (q := 16) (j := 0) (i := 0) dX9_freeTag_13 rfl fl_X9_7 hB rfl rfl rfl rfl ?_
        refine g_iload_n (q := 17) dX9_freeTag_16 rfl rfl ?_
        refine g_iload_n (q := 18) dX9_freeTag_17 rfl rfl ?_
        refine g_callS (q := 21) dX9_freeTag_18 rfl ks_X9_252 rfl (c_tagged (s := s) (k := i)) (by decide) rfl (bz_le rfl) (by decide) (by decide) (fun r g1 hQ => ?_)
        obtain ⟨rfl, hg⟩ := hQ
        have hg := hg.symm
        subst hg
        refine g_iconst (q := 22) (v := (nI 0)) dX9_freeTag_21 rfl (by decide) ?_
        refine g_iaddN (q := 23) dX9_freeTag_22 rfl ?_
        refine gb_ialdN (q := 24) (j := 0) (i := 1) dX9_freeTag_23 rfl hB rfl rfl rfl (by omega) (by decide) ?_
        refine g_eqi (v := nI (P.2.2.1.1 i)) ((hP.2.2.2.2.2.2.1 i (by omega)).1) ?_
        refine g_ifN_ne (q := 27) (t := 29) dX9_freeTag_24 rfl (by decide) (by omega) (fun c => absurd c (by omega)) (fun _ => ?_)
        refine g_iload_n (q := 28) dX9_freeTag_27 rfl rfl ?_
        exact g_iret dX9_freeTag_28 rfl (⟨by rw [← hf], rfl⟩)
      · rw [if_neg hz] at hf
        refine g_iload_n (q := 3) dX9_freeTag_2 rfl rfl ?_
        refine g_aload_n (q := 4) dX9_freeTag_3 rfl rfl ?_
        refine gb_getf (q := 7) (j := 0) (i := 0) dX9_freeTag_4 rfl fl_X9_25 hB rfl rfl rfl rfl ?_
        refine g_iconst (q := 8) (v := (nI 1)) dX9_freeTag_7 rfl (by decide) ?_
        refine gb_ialdN (q := 9) (j := 0) (i := 6) dX9_freeTag_8 rfl hB rfl rfl rfl (by omega) (by decide) ?_
        refine g_eqi (v := nI (c)) (hc) ?_
        refine g_icmpN_ge (q := 12) (t := 35) dX9_freeTag_9 rfl (by decide) (by omega) (by omega) (fun c => absurd c (by omega)) (fun _ => ?_)
        refine g_aload_n (q := 13) dX9_freeTag_12 rfl rfl ?_
        refine gb_getf (q := 16) (j := 0) (i := 0) dX9_freeTag_13 rfl fl_X9_7 hB rfl rfl rfl rfl ?_
        refine g_iload_n (q := 17) dX9_freeTag_16 rfl rfl ?_
        refine g_iload_n (q := 18) dX9_freeTag_17 rfl rfl ?_
        refine g_callS (q := 21) dX9_freeTag_18 rfl ks_X9_252 rfl (c_tagged (s := s) (k := i)) (by decide) rfl (bz_le rfl) (by decide) (by decide) (fun r g1 hQ => ?_)
        obtain ⟨rfl, hg⟩ := hQ
        have hg := hg.symm
        subst hg
        refine g_iconst (q := 22) (v := (nI 0)) dX9_freeTag_21 rfl (by decide) ?_
        refine g_iaddN (q := 23) dX9_freeTag_22 rfl ?_
        refine gb_ialdN (q := 24) (j := 0) (i := 1) dX9_freeTag_23 rfl hB rfl rfl rfl (by omega) (by decide) ?_
        refine g_eqi (v := nI (P.2.2.1.1 i)) ((hP.2.2.2.2.2.2.1 i (by omega)).1) ?_
        refine g_ifN_ne (q := 27) (t := 29) dX9_freeTag_24 rfl (by decide) (by omega) (fun _ => ?_) (fun c => absurd c (by omega))
        refine g_iincN (q := 32) (c := 1) dX9_freeTag_29 rfl (by decide) rfl rfl (by decide) ?_
        refine g_goto (q := 2) dX9_freeTag_32 (by decide) ?_
        refine g_lvs (lv1 := [(2, .int (nI (i + 1))), (0, .ref o), (1, .int (nI s))]) ⟨rfl, rfl, rfl, trivial⟩ ?_
        exact ih (i + 1) (by omega) hf
  refine g_iconst (q := 1) (v := (nI 0)) dX9_freeTag_0 rfl (by decide) ?_
  refine g_istore_n (q := 2) rfl dX9_freeTag_1 rfl (by decide) rfl ?_
  refine g_lvs (lv1 := [(2, .int (nI 0)), (0, .ref o), (1, .int (nI s))]) ⟨rfl, rfl, rfl, trivial⟩ ?_
  exact K c 0 (by omega) rfl
