/-! the reference: post, read, configure, release: the methods -/
theorem m_sd_ent {A1 : Nat → Int32} {s k t ad wd now : Nat} {rx : Bool} {v : Int32} {vs : List Int32} {P : Po} (hs : s < 2) (hk : k < 3) (hP : m_sd A1 s P) (h0 : A1 0 = nI now) (hnow : now < 100000) (hc : s_cnt k P.1 < 8) (ht : t < 8) (ha : ad + wd ≤ 16) (hwd : wd ≤ 4) (hv : k ≠ 1 → vs = s_vals v wd) (hv1 : k = 1 → vs = []) : m_sd (upd (m_cm (A1) s P.1.length (nI k) (if k = 0 then -1 else nI t) (nI ad) (nI wd) (tB rx)) ((155 + 480 * s + 15 * P.1.length) + 4) v) s (P.1 ++ [(s_ent k t rx ad wd now vs)], P.2) ∧ ∀ j, ¬ m_rg s j → (upd (m_cm (A1) s P.1.length (nI k) (if k = 0 then -1 else nI t) (nI ad) (nI wd) (tB rx)) ((155 + 480 * s + 15 * P.1.length) + 4) v) j = A1 j := by
  have hql : P.1.length < 32 := hP.2.2.2.2.2.2.2.2.2.1.lt (k := k) (by omega) hc
  have hag : ∀ j, j ≠ 1 + s → ¬ ((155 + 480 * s + 15 * P.1.length) ≤ j ∧ j < (155 + 480 * s + 15 * P.1.length) + 15) → (upd (m_cm (A1) s P.1.length (nI k) (if k = 0 then -1 else nI t) (nI ad) (nI wd) (tB rx)) ((155 + 480 * s + 15 * P.1.length) + 4) v) j = A1 j := fun j a b => (upd_ne (by omega)).trans (m_cm_ag a b)
  refine ⟨m_sd_app hs hP hql (m_ent_wt hs hk h0 hv) ((upd_ne (by omega)).trans (m_cm_at hs).2.2.2.2.2.2.1) hag (hP.2.2.2.2.2.2.2.2.2.1.app (s_ent_ok hk ht ha hwd hnow (fun c => by rw [hv c, s_vals_len]) hv1) (show s_cnt k P.1 < 8 from hc)), fun j hj => ?_⟩
  unfold m_rg at hj
  exact hag j (by omega) (by omega)
theorem m_sd_ask {A1 : Nat → Int32} {s k t ad wd now : Nat} {rx : Bool} {v : Int32} {vs : List Int32} {P : Po} {w : Nat} (hs : s < 2) (hk : k < 3) (hP : m_sd A1 s P) (h0 : A1 0 = nI now) (hnow : now < 100000) (hc : s_cnt k P.1 < 8) (ht : t < 8) (ha : ad + wd ≤ 16) (hwd : wd ≤ 4) (hv : k ≠ 1 → vs = s_vals v wd) (hv1 : k = 1 → vs = []) (hw : w ≤ 4) : m_sd (upd (upd (upd (upd (m_cm (A1) s P.1.length (nI k) (if k = 0 then -1 else nI t) (nI ad) (nI wd) (tB rx)) ((155 + 480 * s + 15 * P.1.length) + 4) v) ((43 + 7 * (8 * s + t)) + 0) (nI 1)) ((43 + 7 * (8 * s + t)) + 1) (nI w)) ((43 + 7 * (8 * s + t)) + 2) (nI 0)) s (P.1 ++ [(s_ent k t rx ad wd now vs)], P.2.1, s_bgn P.2.2.1 t w, P.2.2.2) ∧ ∀ j, ¬ m_rg s j → (upd (upd (upd (upd (m_cm (A1) s P.1.length (nI k) (if k = 0 then -1 else nI t) (nI ad) (nI wd) (tB rx)) ((155 + 480 * s + 15 * P.1.length) + 4) v) ((43 + 7 * (8 * s + t)) + 0) (nI 1)) ((43 + 7 * (8 * s + t)) + 1) (nI w)) ((43 + 7 * (8 * s + t)) + 2) (nI 0)) j = A1 j := by
  obtain ⟨h1, h2⟩ := m_sd_ent (rx := rx) hs hk hP h0 hnow hc ht ha hwd hv hv1
  have hag : ∀ j, ¬ ((43 + 7 * (8 * s + t)) ≤ j ∧ j < (43 + 7 * (8 * s + t)) + 3) → (upd (upd (upd (upd (m_cm (A1) s P.1.length (nI k) (if k = 0 then -1 else nI t) (nI ad) (nI wd) (tB rx)) ((155 + 480 * s + 15 * P.1.length) + 4) v) ((43 + 7 * (8 * s + t)) + 0) (nI 1)) ((43 + 7 * (8 * s + t)) + 1) (nI w)) ((43 + 7 * (8 * s + t)) + 2) (nI 0)) j = (upd (m_cm (A1) s P.1.length (nI k) (if k = 0 then -1 else nI t) (nI ad) (nI wd) (tB rx)) ((155 + 480 * s + 15 * P.1.length) + 4) v) j := fun j hj => by rw [upd_ne (by omega), upd_ne (by omega), upd_ne (by omega)]
  have ht1 := m_tg_set (N' := (upd (upd (upd (upd (m_cm (A1) s P.1.length (nI k) (if k = 0 then -1 else nI t) (nI ad) (nI wd) (tB rx)) ((155 + 480 * s + 15 * P.1.length) + 4) v) ((43 + 7 * (8 * s + t)) + 0) (nI 1)) ((43 + 7 * (8 * s + t)) + 1) (nI w)) ((43 + 7 * (8 * s + t)) + 2) (nI 0))) (a := 1) (b := w) h1.2.2.2.2.2.2.1 ht (by rw [upd_ne (by omega), upd_ne (by omega), upd_eq]) (fun _ => by rw [upd_ne (by omega), upd_eq]) upd_eq hw hag
  refine ⟨m_sd_tg hs h1 ht1 (fun j hj => hag j (by omega)), fun j hj => ?_⟩
  rw [hag j (by unfold m_rg at hj; omega)]
  exact h2 j hj
theorem m_sd_rls {A1 : Nat → Int32} {s t : Nat} {P : Po} (hs : s < 2) (hP : m_sd A1 s P) (ht : t < 8) : m_sd (upd (upd A1 ((43 + 7 * (8 * s + t)) + 0) (nI 0)) ((43 + 7 * (8 * s + t)) + 2) (nI 0)) s (P.1, P.2.1, s_rls P.2.2.1 t, P.2.2.2) ∧ ∀ j, ¬ m_rg s j → upd (upd A1 ((43 + 7 * (8 * s + t)) + 0) (nI 0)) ((43 + 7 * (8 * s + t)) + 2) (nI 0) j = A1 j := by
  have hag : ∀ j, ¬ ((43 + 7 * (8 * s + t)) ≤ j ∧ j < (43 + 7 * (8 * s + t)) + 3) → upd (upd A1 ((43 + 7 * (8 * s + t)) + 0) (nI 0)) ((43 + 7 * (8 * s + t)) + 2) (nI 0) j = A1 j := fun j hj => by rw [upd_ne (by omega), upd_ne (by omega)]
  have ht1 := m_tg_set (N' := upd (upd A1 ((43 + 7 * (8 * s + t)) + 0) (nI 0)) ((43 + 7 * (8 * s + t)) + 2) (nI 0)) (a := 0) (b := 0) hP.2.2.2.2.2.2.1 ht (by rw [upd_ne (by omega), upd_eq]) (fun h => absurd rfl h) upd_eq (by decide) hag
  exact ⟨m_sd_tg hs hP ht1 (fun j hj => hag j (by omega)), fun j hj => hag j (by unfold m_rg at hj; omega)⟩

set_option maxRecDepth 20000 in
set_option maxHeartbeats 1000000 in
theorem c_masks1 {l : Launch} {E : bz_E} {L : List Nat} {g : Nat → va_E} {o : Nat} {I : Nat → Int32} {A : Nat → Nat → Int32} {s k ad wd c z : Nat} {v : Int32} {rx : Bool} {P : Po} (hs : s < 2) (hk : k = 1 ∨ k = 2) (hP : m_sd (A 1) s P) (hc : A 6 1 = nI c) (hc8 : c ≤ 8) (h2 : ∀ t, t < 8 → P.2.2.1.1 t ≤ 2) (hz : A 2 (4 * s + k) = nI z) (hz8 : z ≤ 8) (hcz : s_cnt k P.1 ≤ z) (h0 : I 0 = nI 0) (hb : z ≤ s_cnt k P.1 ∨ s_fl P.2.2.1.1 c 0 = none) (hH : bz_H L g o (b_Mod E o I A)) : bz_K l E mX9_asks 2 [.ref o, .int (nI s), .int (nI k), .int (nI ad), .int (nI wd), .int v, .int (tB rx)] L g (fun r g1 => r = some (.int (nI 0)) ∧ bz_B L g g1 [(o, b_Mod E o (va_up I 0 (nI 3)) A)]) := by
  refine bz_K.of (by decide) (bz_le rfl) (fun sz => ?_)
  show bz_G _ _ _ _ _ _ _ _ _ _ _ _ 0 [(0, .ref o), (1, .int (nI s)), (2, .int (nI k)), (3, .int (nI ad)), (4, .int (nI wd)), (5, .int v), (6, .int (tB rx))] []
  have hB := bz_B.rf (bz_W.one hH)
  by_cases cz : z ≤ s_cnt k P.1
  ·
    refine g_aload_n (q := 1) dX9_asks_0 rfl rfl ?_
    refine g_iload_n (q := 2) dX9_asks_1 rfl rfl ?_
    refine gb_callV (q := 5) (j := 0) (i := 0) dX9_asks_2 rfl kv_X9_324 (c_mfreeTag (P := P) (c := c) hs hP hc hc8 h2 (hB.1.at (j := 0) rfl)) rfl (by decide) hB rfl rfl rfl rfl (bz_le rfl) (by decide) (by decide) (fun r g1 hQ => ?_)
    obtain ⟨rfl, hg⟩ := hQ
    have hg := hg.symm
    subst hg
    refine g_istore (q := 7) dX9_asks_5 rfl (by decide) rfl ?_
    refine g_aload_n (q := 8) dX9_asks_7 rfl rfl ?_
    refine g_aload_n (q := 9) dX9_asks_8 rfl rfl ?_
    refine g_iload_n (q := 10) dX9_asks_9 rfl rfl ?_
    refine g_iload_n (q := 11) dX9_asks_10 rfl rfl ?_
    refine gb_callV (q := 14) (j := 0) (i := 0) dX9_asks_11 rfl kv_X9_275 (c_mroom (P := P) (z := z) hs (by omega) hz hP (hB.1.at (j := 0) rfl)) rfl (by decide) hB rfl rfl rfl rfl (bz_le rfl) (by decide) (by decide) (fun r g1 hQ => ?_)
    obtain ⟨rfl, hg⟩ := hQ
    have hg := hg.symm
    subst hg
    refine g_eqi (v := nI (0)) (by rw [bz_subI hcz]; congr 1; omega) ?_
    refine g_ifN_le (q := 17) (t := 23) dX9_asks_14 rfl (by decide) (by omega) (fun _ => ?_) (fun c => absurd c (by omega))
    refine g_iconst (q := 24) (v := (nI 1)) dX9_asks_23 rfl (by decide) ?_
    refine g_goto (q := 28) dX9_asks_24 (by decide) ?_
    refine g_iconst (q := 29) (v := (nI 3)) dX9_asks_28 rfl (by decide) ?_
    refine gb_callV (q := 32) (j := 0) (i := 0) dX9_asks_29 rfl kv_X9_210 (c_mthrowsIf1 (k := 3) h0 (by decide) (hB.1.at (j := 0) rfl)) rfl (by decide) hB rfl rfl rfl rfl (bz_le rfl) (by decide) (by decide) (fun r g1 hQ => ?_)
    obtain ⟨rfl, h1⟩ := hQ
    have hB := hB.sp (j := 0) rfl 0 rfl h1 (bz_le rfl)
    refine g_ifN_eq (q := 35) (t := 37) dX9_asks_32 rfl (by decide) (by omega) (fun c => absurd c (by omega)) (fun _ => ?_)
    refine g_iconst (q := 36) (v := (nI 0)) dX9_asks_35 rfl (by decide) ?_
    exact g_iret dX9_asks_36 rfl (⟨rfl, hB⟩)
  · have hb : s_fl P.2.2.1.1 c 0 = none := hb.resolve_left cz
    refine g_aload_n (q := 1) dX9_asks_0 rfl rfl ?_
    refine g_iload_n (q := 2) dX9_asks_1 rfl rfl ?_
    refine gb_callV (q := 5) (j := 0) (i := 0) dX9_asks_2 rfl kv_X9_324 (c_mfreeTag (P := P) (c := c) hs hP hc hc8 h2 (hB.1.at (j := 0) rfl)) rfl (by decide) hB rfl rfl rfl rfl (bz_le rfl) (by decide) (by decide) (fun r g1 hQ => ?_)
    obtain ⟨rfl, hg⟩ := hQ
    have hg := hg.symm
    subst hg
    refine g_eqi (v := -1) (by rw [hb]) ?_
    refine g_istore (q := 7) dX9_asks_5 rfl (by decide) rfl ?_
    refine g_aload_n (q := 8) dX9_asks_7 rfl rfl ?_
    refine g_aload_n (q := 9) dX9_asks_8 rfl rfl ?_
    refine g_iload_n (q := 10) dX9_asks_9 rfl rfl ?_
    refine g_iload_n (q := 11) dX9_asks_10 rfl rfl ?_
    refine gb_callV (q := 14) (j := 0) (i := 0) dX9_asks_11 rfl kv_X9_275 (c_mroom (P := P) (z := z) hs (by omega) hz hP (hB.1.at (j := 0) rfl)) rfl (by decide) hB rfl rfl rfl rfl (bz_le rfl) (by decide) (by decide) (fun r g1 hQ => ?_)
    obtain ⟨rfl, hg⟩ := hQ
    have hg := hg.symm
    subst hg
    refine g_eqi (v := nI (z - s_cnt k P.1)) (bz_subI hcz) ?_
    refine g_ifN_le (q := 17) (t := 23) dX9_asks_14 rfl (by decide) (by omega) (fun c => absurd c (by omega)) (fun _ => ?_)
    refine g_iload (q := 19) dX9_asks_17 rfl rfl ?_
    refine g_iconst (q := 20) (v := (-1)) dX9_asks_19 rfl (by decide) ?_
    refine g_icmp_ne (q := 23) (t := 27) dX9_asks_20 rfl (by decide) (fun c => absurd c (fun h => h rfl)) (fun _ => ?_)
    refine g_iconst (q := 24) (v := (nI 1)) dX9_asks_23 rfl (by decide) ?_
    refine g_goto (q := 28) dX9_asks_24 (by decide) ?_
    refine g_iconst (q := 29) (v := (nI 3)) dX9_asks_28 rfl (by decide) ?_
    refine gb_callV (q := 32) (j := 0) (i := 0) dX9_asks_29 rfl kv_X9_210 (c_mthrowsIf1 (k := 3) h0 (by decide) (hB.1.at (j := 0) rfl)) rfl (by decide) hB rfl rfl rfl rfl (bz_le rfl) (by decide) (by decide) (fun r g1 hQ => ?_)
    obtain ⟨rfl, h1⟩ := hQ
    have hB := hB.sp (j := 0) rfl 0 rfl h1 (bz_le rfl)
    refine g_ifN_eq (q := 35) (t := 37) dX9_asks_32 rfl (by decide) (by omega) (fun c => absurd c (by omega)) (fun _ => ?_)
    refine g_iconst (q := 36) (v := (nI 0)) dX9_asks_35 rfl (by decide) ?_
    exact g_iret dX9_asks_36 rfl (⟨rfl, hB⟩)
set_option maxRecDepth 20000 in
set_option maxHeartbeats 1000000 in
theorem c_masks0 {l : Launch} {E : bz_E} {L : List Nat} {g : Nat → va_E} {o : Nat} {I : Nat → Int32} {A : Nat → Nat → Int32} {s k ad wd c z : Nat} {v : Int32} {rx : Bool} {P : Po} {t now : Nat} {vs : List Int32} {hl : List Si} {σ : Si} (hs : s < 2) (hk : k = 1 ∨ k = 2) (hP : m_sd (A 1) s P) (hc : A 6 1 = nI c) (hc8 : c ≤ 8) (h2 : ∀ t, t < 8 → P.2.2.1.1 t ≤ 2) (hz : A 2 (4 * s + k) = nI z) (hz8 : z ≤ 8) (hcz : s_cnt k P.1 ≤ z) (h0 : I 0 = nI 0) (hlt : s_cnt k P.1 < z) (hfl : s_fl P.2.2.1.1 c 0 = some t) (ht : t < 8) (hn0 : A 1 0 = nI now) (hnow : now < 100000) (ha : ad + wd ≤ 16) (hwd : wd ≤ 4) (hv : k ≠ 1 → vs = s_vals v wd) (hv1 : k = 1 → vs = []) (hun : m_un (A 13) hl) (hln : I 27 = nI hl.length) (h10 : hl.length ≤ 10) (hst : m_st (A 1) σ) (hH : bz_H L g o (b_Mod E o I A)) : bz_K l E mX9_asks 2 [.ref o, .int (nI s), .int (nI k), .int (nI ad), .int (nI wd), .int v, .int (tB rx)] L g (fun r g1 => r = some (.int (nI t)) ∧ ∃ N U : Nat → Int32, bz_B L g g1 [(o, b_Mod E o (va_up I 27 (nI (s_kp hl σ).length)) (va_up (va_up A 13 U) 1 N))] ∧ m_un U (s_kp hl σ) ∧ m_sd N s (P.1 ++ [(s_ent k t rx ad wd now vs)], P.2.1, s_bgn P.2.2.1 t (if k = 1 then wd else 0), P.2.2.2) ∧ ∀ j, ¬ m_rg s j → N j = A 1 j) := by
  refine bz_K.of (by decide) (bz_le rfl) (fun sz => ?_)
  show bz_G _ _ _ _ _ _ _ _ _ _ _ _ 0 [(0, .ref o), (1, .int (nI s)), (2, .int (nI k)), (3, .int (nI ad)), (4, .int (nI wd)), (5, .int v), (6, .int (tB rx))] []
  have hB := bz_B.rf (bz_W.one hH)
  have hql : P.1.length < 32 := hP.2.2.2.2.2.2.2.2.2.1.lt (k := k) (by omega) (by omega)
  rcases hk with rfl | rfl
  · have hN := m_sd_ask (w := wd) (rx := rx) hs (by decide) hP hn0 hnow (by omega) ht ha hwd hv hv1 hwd
    refine g_aload_n (q := 1) dX9_asks_0 rfl rfl ?_
    refine g_iload_n (q := 2) dX9_asks_1 rfl rfl ?_
    refine gb_callV (q := 5) (j := 0) (i := 0) dX9_asks_2 rfl kv_X9_324 (c_mfreeTag (P := P) (c := c) hs hP hc hc8 h2 (hB.1.at (j := 0) rfl)) rfl (by decide) hB rfl rfl rfl rfl (bz_le rfl) (by decide) (by decide) (fun r g1 hQ => ?_)
    obtain ⟨rfl, hg⟩ := hQ
    have hg := hg.symm
    subst hg
    refine g_eqi (v := nI (t)) (by rw [hfl]) ?_
    refine g_istore (q := 7) dX9_asks_5 rfl (by decide) rfl ?_
    refine g_aload_n (q := 8) dX9_asks_7 rfl rfl ?_
    refine g_aload_n (q := 9) dX9_asks_8 rfl rfl ?_
    refine g_iload_n (q := 10) dX9_asks_9 rfl rfl ?_
    refine g_iload_n (q := 11) dX9_asks_10 rfl rfl ?_
    refine gb_callV (q := 14) (j := 0) (i := 0) dX9_asks_11 rfl kv_X9_275 (c_mroom (P := P) (z := z) hs (by omega) hz hP (hB.1.at (j := 0) rfl)) rfl (by decide) hB rfl rfl rfl rfl (bz_le rfl) (by decide) (by decide) (fun r g1 hQ => ?_)
    obtain ⟨rfl, hg⟩ := hQ
    have hg := hg.symm
    subst hg
    refine g_eqi (v := nI (z - s_cnt 1 P.1)) (bz_subI hcz) ?_
    refine g_ifN_le (q := 17) (t := 23) dX9_asks_14 rfl (by decide) (by omega) (fun c => absurd c (by omega)) (fun _ => ?_)
    refine g_iload (q := 19) dX9_asks_17 rfl rfl ?_
    refine g_iconst (q := 20) (v := (-1)) dX9_asks_19 rfl (by decide) ?_
    refine g_icmp_ne (q := 23) (t := 27) dX9_asks_20 rfl (by decide) (fun _ => ?_) (fun c => absurd c (nI_nm _ (by omega)))
    refine g_iconst (q := 28) (v := (nI 0)) dX9_asks_27 rfl (by decide) ?_
    refine g_iconst (q := 29) (v := (nI 3)) dX9_asks_28 rfl (by decide) ?_
    refine gb_callV (q := 32) (j := 0) (i := 0) dX9_asks_29 rfl kv_X9_210 (c_mthrowsIf0 (k := 3) h0 (hB.1.at (j := 0) rfl)) rfl (by decide) hB rfl rfl rfl rfl (bz_le rfl) (by decide) (by decide) (fun r g1 hQ => ?_)
    obtain ⟨rfl, hg⟩ := hQ
    have hg := hg.symm
    subst hg
    refine g_ifN_eq (q := 35) (t := 37) dX9_asks_32 rfl (by decide) (by omega) (fun _ => ?_) (fun c => absurd c (by omega))
    refine g_aload_n (q := 38) dX9_asks_37 rfl rfl ?_
    refine gb_callV (q := 41) (j := 0) (i := 0) dX9_asks_38 rfl kv_X9_318 (c_mkeeps (I := I) (A := A) (hs := hl) (σ := σ) hun hln h10 hst (hB.1.at (j := 0) rfl)) rfl (by decide) hB rfl rfl rfl rfl (bz_le rfl) (by decide) (by decide) (fun r g1 hQ => ?_)
    obtain ⟨rfl, U, h1, hU⟩ := hQ
    have hB := hB.sp (j := 0) rfl 0 rfl h1 (bz_le rfl)
    refine g_aload_n (q := 42) dX9_asks_41 rfl rfl ?_
    refine gb_getf (q := 45) (j := 0) (i := 0) dX9_asks_42 rfl fl_X9_7 hB rfl rfl rfl rfl ?_
    refine g_aload_n (q := 46) dX9_asks_45 rfl rfl ?_
    refine g_iload_n (q := 47) dX9_asks_46 rfl rfl ?_
    refine g_iload_n (q := 48) dX9_asks_47 rfl rfl ?_
    refine g_iload (q := 50) dX9_asks_48 rfl rfl ?_
    refine g_iload_n (q := 51) dX9_asks_50 rfl rfl ?_
    refine g_iload (q := 53) dX9_asks_51 rfl rfl ?_
    refine g_iload (q := 55) dX9_asks_53 rfl rfl ?_
    refine gb_callV (q := 58) (j := 0) (i := 0) dX9_asks_55 rfl kv_X9_278 (c_mcomes (I := (va_up I 27 (nI (s_kp hl σ).length))) (A := va_up A 13 U) (n := P.1.length) (rx := rx) hs hql hP.1 (hB.1.at (j := 0) rfl)) rfl (by decide) hB rfl rfl rfl rfl (bz_le rfl) (by decide) (by decide) (fun r g1 hQ => ?_)
    obtain ⟨rfl, h1⟩ := hQ
    have hB := hB.sp (j := 0) rfl 0 rfl h1 (bz_le rfl)
    refine g_iconst (q := 59) (v := (nI 4)) dX9_asks_58 rfl (by decide) ?_
    refine g_iaddN (q := 60) dX9_asks_59 rfl ?_
    refine g_iload (q := 62) dX9_asks_60 rfl rfl ?_
    refine gb_iastN (q := 63) (j := 0) (i := 1) dX9_asks_62 rfl hB rfl rfl rfl (by omega) (by decide) (fun g hB => ?_)
    refine g_iload_n (q := 64) dX9_asks_63 rfl rfl ?_
    refine g_iload (q := 66) dX9_asks_64 rfl rfl ?_
    refine g_callS (q := 69) dX9_asks_66 rfl ks_X9_252 rfl (c_tagged (s := s) (k := t)) (by decide) rfl (bz_le rfl) (by decide) (by decide) (fun r g1 hQ => ?_)
    obtain ⟨rfl, hg⟩ := hQ
    have hg := hg.symm
    subst hg
    refine g_istore (q := 71) dX9_asks_69 rfl (by decide) rfl ?_
    refine g_aload_n (q := 72) dX9_asks_71 rfl rfl ?_
    refine gb_getf (q := 75) (j := 0) (i := 0) dX9_asks_72 rfl fl_X9_7 hB rfl rfl rfl rfl ?_
    refine g_iload (q := 77) dX9_asks_75 rfl rfl ?_
    refine g_iconst (q := 78) (v := (nI 0)) dX9_asks_77 rfl (by decide) ?_
    refine g_iaddN (q := 79) dX9_asks_78 rfl ?_
    refine g_iconst (q := 80) (v := (nI 1)) dX9_asks_79 rfl (by decide) ?_
    refine gb_iastN (q := 81) (j := 0) (i := 1) dX9_asks_80 rfl hB rfl rfl rfl (by omega) (by decide) (fun g hB => ?_)
    refine g_aload_n (q := 82) dX9_asks_81 rfl rfl ?_
    refine gb_getf (q := 85) (j := 0) (i := 0) dX9_asks_82 rfl fl_X9_7 hB rfl rfl rfl rfl ?_
    refine g_iload (q := 87) dX9_asks_85 rfl rfl ?_
    refine g_iconst (q := 88) (v := (nI 1)) dX9_asks_87 rfl (by decide) ?_
    refine g_iaddN (q := 89) dX9_asks_88 rfl ?_
    refine g_iload_n (q := 90) dX9_asks_89 rfl rfl ?_
    refine g_iconst (q := 91) (v := (nI 1)) dX9_asks_90 rfl (by decide) ?_
    refine g_icmpN_ne (q := 94) (t := 99) dX9_asks_91 rfl (by decide) (by omega) (by omega) (fun c => absurd c (by omega)) (fun _ => ?_)
    refine g_iload (q := 96) dX9_asks_94 rfl rfl ?_
    refine g_goto (q := 100) dX9_asks_96 (by decide) ?_
    refine gb_iastN (q := 101) (j := 0) (i := 1) dX9_asks_100 rfl hB rfl rfl rfl (by omega) (by decide) (fun g hB => ?_)
    refine g_aload_n (q := 102) dX9_asks_101 rfl rfl ?_
    refine gb_getf (q := 105) (j := 0) (i := 0) dX9_asks_102 rfl fl_X9_7 hB rfl rfl rfl rfl ?_
    refine g_iload (q := 107) dX9_asks_105 rfl rfl ?_
    refine g_iconst (q := 108) (v := (nI 2)) dX9_asks_107 rfl (by decide) ?_
    refine g_iaddN (q := 109) dX9_asks_108 rfl ?_
    refine g_iconst (q := 110) (v := (nI 0)) dX9_asks_109 rfl (by decide) ?_
    refine gb_iastN (q := 111) (j := 0) (i := 1) dX9_asks_110 rfl hB rfl rfl rfl (by omega) (by decide) (fun g hB => ?_)
    refine g_iload (q := 113) dX9_asks_111 rfl rfl ?_
    exact g_iret dX9_asks_113 rfl (⟨rfl, _, U, hB, hU, hN.1, hN.2⟩)
  · have hN := m_sd_ask (w := 0) (rx := rx) hs (by decide) hP hn0 hnow (by omega) ht ha hwd hv hv1 (by decide)
    refine g_aload_n (q := 1) dX9_asks_0 rfl rfl ?_
    refine g_iload_n (q := 2) dX9_asks_1 rfl rfl ?_
    refine gb_callV (q := 5) (j := 0) (i := 0) dX9_asks_2 rfl kv_X9_324 (c_mfreeTag (P := P) (c := c) hs hP hc hc8 h2 (hB.1.at (j := 0) rfl)) rfl (by decide) hB rfl rfl rfl rfl (bz_le rfl) (by decide) (by decide) (fun r g1 hQ => ?_)
    obtain ⟨rfl, hg⟩ := hQ
    have hg := hg.symm
    subst hg
    refine g_eqi (v := nI (t)) (by rw [hfl]) ?_
    refine g_istore (q := 7) dX9_asks_5 rfl (by decide) rfl ?_
    refine g_aload_n (q := 8) dX9_asks_7 rfl rfl ?_
    refine g_aload_n (q := 9) dX9_asks_8 rfl rfl ?_
    refine g_iload_n (q := 10) dX9_asks_9 rfl rfl ?_
    refine g_iload_n (q := 11) dX9_asks_10 rfl rfl ?_
    refine gb_callV (q := 14) (j := 0) (i := 0) dX9_asks_11 rfl kv_X9_275 (c_mroom (P := P) (z := z) hs (by omega) hz hP (hB.1.at (j := 0) rfl)) rfl (by decide) hB rfl rfl rfl rfl (bz_le rfl) (by decide) (by decide) (fun r g1 hQ => ?_)
    obtain ⟨rfl, hg⟩ := hQ
    have hg := hg.symm
    subst hg
    refine g_eqi (v := nI (z - s_cnt 2 P.1)) (bz_subI hcz) ?_
    refine g_ifN_le (q := 17) (t := 23) dX9_asks_14 rfl (by decide) (by omega) (fun c => absurd c (by omega)) (fun _ => ?_)
    refine g_iload (q := 19) dX9_asks_17 rfl rfl ?_
    refine g_iconst (q := 20) (v := (-1)) dX9_asks_19 rfl (by decide) ?_
    refine g_icmp_ne (q := 23) (t := 27) dX9_asks_20 rfl (by decide) (fun _ => ?_) (fun c => absurd c (nI_nm _ (by omega)))
    refine g_iconst (q := 28) (v := (nI 0)) dX9_asks_27 rfl (by decide) ?_
    refine g_iconst (q := 29) (v := (nI 3)) dX9_asks_28 rfl (by decide) ?_
    refine gb_callV (q := 32) (j := 0) (i := 0) dX9_asks_29 rfl kv_X9_210 (c_mthrowsIf0 (k := 3) h0 (hB.1.at (j := 0) rfl)) rfl (by decide) hB rfl rfl rfl rfl (bz_le rfl) (by decide) (by decide) (fun r g1 hQ => ?_)
    obtain ⟨rfl, hg⟩ := hQ
    have hg := hg.symm
    subst hg
    refine g_ifN_eq (q := 35) (t := 37) dX9_asks_32 rfl (by decide) (by omega) (fun _ => ?_) (fun c => absurd c (by omega))
    refine g_aload_n (q := 38) dX9_asks_37 rfl rfl ?_
    refine gb_callV (q := 41) (j := 0) (i := 0) dX9_asks_38 rfl kv_X9_318 (c_mkeeps (I := I) (A := A) (hs := hl) (σ := σ) hun hln h10 hst (hB.1.at (j := 0) rfl)) rfl (by decide) hB rfl rfl rfl rfl (bz_le rfl) (by decide) (by decide) (fun r g1 hQ => ?_)
    obtain ⟨rfl, U, h1, hU⟩ := hQ
    have hB := hB.sp (j := 0) rfl 0 rfl h1 (bz_le rfl)
    refine g_aload_n (q := 42) dX9_asks_41 rfl rfl ?_
    refine gb_getf (q := 45) (j := 0) (i := 0) dX9_asks_42 rfl fl_X9_7 hB rfl rfl rfl rfl ?_
    refine g_aload_n (q := 46) dX9_asks_45 rfl rfl ?_
    refine g_iload_n (q := 47) dX9_asks_46 rfl rfl ?_
    refine g_iload_n (q := 48) dX9_asks_47 rfl rfl ?_
    refine g_iload (q := 50) dX9_asks_48 rfl rfl ?_
    refine g_iload_n (q := 51) dX9_asks_50 rfl rfl ?_
    refine g_iload (q := 53) dX9_asks_51 rfl rfl ?_
    refine g_iload (q := 55) dX9_asks_53 rfl rfl ?_
    refine gb_callV (q := 58) (j := 0) (i := 0) dX9_asks_55 rfl kv_X9_278 (c_mcomes (I := (va_up I 27 (nI (s_kp hl σ).length))) (A := va_up A 13 U) (n := P.1.length) (rx := rx) hs hql hP.1 (hB.1.at (j := 0) rfl)) rfl (by decide) hB rfl rfl rfl rfl (bz_le rfl) (by decide) (by decide) (fun r g1 hQ => ?_)
    obtain ⟨rfl, h1⟩ := hQ
    have hB := hB.sp (j := 0) rfl 0 rfl h1 (bz_le rfl)
    refine g_iconst (q := 59) (v := (nI 4)) dX9_asks_58 rfl (by decide) ?_
    refine g_iaddN (q := 60) dX9_asks_59 rfl ?_
    refine g_iload (q := 62) dX9_asks_60 rfl rfl ?_
    refine gb_iastN (q := 63) (j := 0) (i := 1) dX9_asks_62 rfl hB rfl rfl rfl (by omega) (by decide) (fun g hB => ?_)
    refine g_iload_n (q := 64) dX9_asks_63 rfl rfl ?_
    refine g_iload (q := 66) dX9_asks_64 rfl rfl ?_
    refine g_callS (q := 69) dX9_asks_66 rfl ks_X9_252 rfl (c_tagged (s := s) (k := t)) (by decide) rfl (bz_le rfl) (by decide) (by decide) (fun r g1 hQ => ?_)
    obtain ⟨rfl, hg⟩ := hQ
    have hg := hg.symm
    subst hg
    refine g_istore (q := 71) dX9_asks_69 rfl (by decide) rfl ?_
    refine g_aload_n (q := 72) dX9_asks_71 rfl rfl ?_
    refine gb_getf (q := 75) (j := 0) (i := 0) dX9_asks_72 rfl fl_X9_7 hB rfl rfl rfl rfl ?_
    refine g_iload (q := 77) dX9_asks_75 rfl rfl ?_
    refine g_iconst (q := 78) (v := (nI 0)) dX9_asks_77 rfl (by decide) ?_
    refine g_iaddN (q := 79) dX9_asks_78 rfl ?_
    refine g_iconst (q := 80) (v := (nI 1)) dX9_asks_79 rfl (by decide) ?_
    refine gb_iastN (q := 81) (j := 0) (i := 1) dX9_asks_80 rfl hB rfl rfl rfl (by omega) (by decide) (fun g hB => ?_)
    refine g_aload_n (q := 82) dX9_asks_81 rfl rfl ?_
    refine gb_getf (q := 85) (j := 0) (i := 0) dX9_asks_82 rfl fl_X9_7 hB rfl rfl rfl rfl ?_
    refine g_iload (q := 87) dX9_asks_85 rfl rfl ?_
    refine g_iconst (q := 88) (v := (nI 1)) dX9_asks_87 rfl (by decide) ?_
    refine g_iaddN (q := 89) dX9_asks_88 rfl ?_
    refine g_iload_n (q := 90) dX9_asks_89 rfl rfl ?_
    refine g_iconst (q := 91) (v := (nI 1)) dX9_asks_90 rfl (by decide) ?_
    refine g_icmpN_ne (q := 94) (t := 99) dX9_asks_91 rfl (by decide) (by omega) (by omega) (fun _ => ?_) (fun c => absurd c (by omega))
    refine g_iconst (q := 100) (v := (nI 0)) dX9_asks_99 rfl (by decide) ?_
    refine gb_iastN (q := 101) (j := 0) (i := 1) dX9_asks_100 rfl hB rfl rfl rfl (by omega) (by decide) (fun g hB => ?_)
    refine g_aload_n (q := 102) dX9_asks_101 rfl rfl ?_
    refine gb_getf (q := 105) (j := 0) (i := 0) dX9_asks_102 rfl fl_X9_7 hB rfl rfl rfl rfl ?_
    refine g_iload (q := 107) dX9_asks_105 rfl rfl ?_
    refine g_iconst (q := 108) (v := (nI 2)) dX9_asks_107 rfl (by decide) ?_
    refine g_iaddN (q := 109) dX9_asks_108 rfl ?_
    refine g_iconst (q := 110) (v := (nI 0)) dX9_asks_109 rfl (by decide) ?_
    refine gb_iastN (q := 111) (j := 0) (i := 1) dX9_asks_110 rfl hB rfl rfl rfl (by omega) (by decide) (fun g hB => ?_)
    refine g_iload (q := 113) dX9_asks_111 rfl rfl ?_
    exact g_iret dX9_asks_113 rfl (⟨rfl, _, U, hB, hU, hN.1, hN.2⟩)
