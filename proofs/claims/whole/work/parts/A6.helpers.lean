/-! the law's helpers: their contracts, from what the class does -/
abbrev eJ (E : bz_E) (u : Nat → Int64) : va_E := .inl (E.1.1 24, 1, .inr (.inl u))
abbrev eD (E : bz_E) (u : Nat → UInt64) : va_E := .inl (E.1.1 25, 1, .inr (.inr (.inr (.inl u))))
set_option maxRecDepth 20000 in
set_option maxHeartbeats 1000000 in
theorem hl_parse {l : Launch} {E : bz_E} {L : List Nat} {g : Nat → va_E} {o a d2 : Nat} {v1 : Int32} {fs : List Value} {u : Nat → Int64} {Q : Int32 → (Nat → va_E) → Prop} (hd2 : d2 < 12) (ho : o ∈ L) (hg : g o = .inr (8, fs)) (hK : bz_K l E mX8_parse d2 [.ref o, .int v1] L g (fun r g1 => ∃ v : Int32, r = some (.int v) ∧ bz_H L g1 a [eJ E u] ∧ Q v g1)) : bz_KH l E mL_parse tL_parse 12 [.ref o, .int v1, .ref a] L g (fun r g1 => r = some (.int (nI 0)) ∧ ∃ (v : Int32) (g9 : Nat → va_E), Q v g9 ∧ bz_B L g9 g1 [(a, [eJ E (vp_updL u 0 v.toInt64)])]) := by
  refine bz_KH.of (by decide) (bz_le rfl) (by decide +kernel) (fun sz => ?_)
  show bz_G _ _ _ _ _ _ _ _ _ _ _ _ 0 [(0, .ref o), (1, .int v1), (2, .ref a)] []
  refine g_aload_n (q := 1) dL_parse_0 rfl rfl ?_
  refine g_iconst (q := 2) (v := (nI 0)) dL_parse_1 rfl (by decide) ?_
  refine g_aload_n (q := 3) dL_parse_2 rfl rfl ?_
  refine g_iload_n (q := 4) dL_parse_3 rfl rfl ?_
  refine g_callV (q := 7) dL_parse_4 rfl kv_L_7 rfl hK hd2 ho hg rfl (bz_le rfl) (by decide) (by decide) (fun r g1 hQ => ?_)
  obtain ⟨v, rfl, hA, hQ⟩ := hQ
  have hB := bz_B.rf (bz_W.one hA)
  refine g_i2l (q := 8) dL_parse_7 rfl ?_
  refine gb_lastN (q := 9) (j := 0) (i := 0) dL_parse_8 rfl hB rfl rfl rfl (by omega) (by decide) (fun g hB => ?_)
  refine g_goto (q := 15) dL_parse_9 (by decide) ?_
  refine g_iconst (q := 16) (v := (nI 0)) dL_parse_15 rfl (by decide) ?_
  exact gh_iret dL_parse_16 rfl (Nat.le_refl _) (by decide) (by decide) ⟨rfl, v, _, hQ, hB⟩
set_option maxRecDepth 20000 in
set_option maxHeartbeats 1000000 in
theorem hx_parse_IAE {l : Launch} {E : bz_E} {L : List Nat} {g : Nat → va_E} {o a d2 : Nat} {v1 : Int32} {fs : List Value} (hd2 : d2 < 12) (ho : o ∈ L) (hg : g o = .inr (8, fs)) (hK : bz_KX l E mX8_parse d2 [.ref o, .int v1] L g x_IAE) : bz_KH l E mL_parse tL_parse 12 [.ref o, .int v1, .ref a] L g (fun r g1 => r = some (.int (nI 1)) ∧ g1 = g) := by
  refine bz_KH.of (by decide) (bz_le rfl) (by decide +kernel) (fun sz => ?_)
  show bz_G _ _ _ _ _ _ _ _ _ _ _ _ 0 [(0, .ref o), (1, .int v1), (2, .ref a)] []
  refine g_aload_n (q := 1) dL_parse_0 rfl rfl ?_
  refine g_iconst (q := 2) (v := (nI 0)) dL_parse_1 rfl (by decide) ?_
  refine g_aload_n (q := 3) dL_parse_2 rfl rfl ?_
  refine g_iload_n (q := 4) dL_parse_3 rfl rfl ?_
  refine gh_catch (pre := []) (suf := []) (a9 := 0) (b9 := 9) (h9 := 12) (ct := 13) dL_parse_4 (by decide +kernel) (fun z h => by cases h) (by decide) (by decide) cl_IAE xs_IAE kv_L_7 hK rfl hd2 ho hg rfl (bz_le rfl) (fun z1 q9 hz1 => ?_)
  refine g_astore_n (q := 13) rfl dL_parse_12 rfl (by decide) rfl ?_
  refine g_iconst (q := 14) (v := (nI 1)) dL_parse_13 rfl (by decide) ?_
  exact gh_iret dL_parse_14 rfl hz1 (by decide) (by decide) ⟨rfl, rfl⟩
set_option maxRecDepth 20000 in
set_option maxHeartbeats 1000000 in
theorem hl_mayPass {l : Launch} {E : bz_E} {L : List Nat} {g : Nat → va_E} {o a d2 : Nat} {v1 v2 v3 : Int32} {fs : List Value} {u : Nat → Int64} {Q : Int32 → (Nat → va_E) → Prop} (hd2 : d2 < 12) (ho : o ∈ L) (hg : g o = .inr (8, fs)) (hK : bz_K l E mX8_mayPass d2 [.ref o, .int v1, .int v2, .int v3] L g (fun r g1 => ∃ v : Int32, r = some (.int v) ∧ bz_H L g1 a [eJ E u] ∧ Q v g1)) : bz_KH l E mL_mayPass tL_mayPass 12 [.ref o, .int v1, .int v2, .int v3, .ref a] L g (fun r g1 => r = some (.int (nI 0)) ∧ ∃ (v : Int32) (g9 : Nat → va_E), Q v g9 ∧ bz_B L g9 g1 [(a, [eJ E (vp_updL u 0 (if v = 0 then 0 else 1))])]) := by
  refine bz_KH.of (by decide) (bz_le rfl) (by decide +kernel) (fun sz => ?_)
  show bz_G _ _ _ _ _ _ _ _ _ _ _ _ 0 [(0, .ref o), (1, .int v1), (2, .int v2), (3, .int v3), (4, .ref a)] []
  refine g_aload (q := 2) dL_mayPass_0 rfl rfl ?_
  refine g_iconst (q := 3) (v := (nI 0)) dL_mayPass_2 rfl (by decide) ?_
  refine g_aload_n (q := 4) dL_mayPass_3 rfl rfl ?_
  refine g_iload_n (q := 5) dL_mayPass_4 rfl rfl ?_
  refine g_iload_n (q := 6) dL_mayPass_5 rfl rfl ?_
  refine g_iload_n (q := 7) dL_mayPass_6 rfl rfl ?_
  refine g_callV (q := 10) dL_mayPass_7 rfl kv_L_15 rfl hK hd2 ho hg rfl (bz_le rfl) (by decide) (by decide) (fun r g1 hQ => ?_)
  obtain ⟨v, rfl, hA, hQ⟩ := hQ
  have hB := bz_B.rf (bz_W.one hA)
  refine g_if_eq (q := 13) (t := 17) dL_mayPass_10 rfl (by decide) (fun c_10 => ?_) (fun c_10 => ?_)
  · refine g_lconst (q := 18) (v := 0) dL_mayPass_17 rfl (by decide) ?_
    refine gb_lastN (q := 19) (j := 0) (i := 0) dL_mayPass_18 rfl hB rfl rfl rfl (by omega) (by decide) (fun g hB => ?_)
    refine g_goto (q := 26) dL_mayPass_19 (by decide) ?_
    refine g_iconst (q := 27) (v := (nI 0)) dL_mayPass_26 rfl (by decide) ?_
    exact gh_iret dL_mayPass_27 rfl (Nat.le_refl _) (by decide) (by decide) ⟨rfl, v, _, hQ, (by first | (rw [if_pos c_10]; exact hB) | (rw [if_neg c_10]; exact hB))⟩
  · refine g_lconst (q := 14) (v := 1) dL_mayPass_13 rfl (by decide) ?_
    refine g_goto (q := 18) dL_mayPass_14 (by decide) ?_
    refine gb_lastN (q := 19) (j := 0) (i := 0) dL_mayPass_18 rfl hB rfl rfl rfl (by omega) (by decide) (fun g hB => ?_)
    refine g_goto (q := 26) dL_mayPass_19 (by decide) ?_
    refine g_iconst (q := 27) (v := (nI 0)) dL_mayPass_26 rfl (by decide) ?_
    exact gh_iret dL_mayPass_27 rfl (Nat.le_refl _) (by decide) (by decide) ⟨rfl, v, _, hQ, (by first | (rw [if_pos c_10]; exact hB) | (rw [if_neg c_10]; exact hB))⟩
set_option maxRecDepth 20000 in
set_option maxHeartbeats 1000000 in
theorem hx_mayPass_IOE {l : Launch} {E : bz_E} {L : List Nat} {g : Nat → va_E} {o a d2 : Nat} {v1 v2 v3 : Int32} {fs : List Value} (hd2 : d2 < 12) (ho : o ∈ L) (hg : g o = .inr (8, fs)) (hK : bz_KX l E mX8_mayPass d2 [.ref o, .int v1, .int v2, .int v3] L g x_IOE) : bz_KH l E mL_mayPass tL_mayPass 12 [.ref o, .int v1, .int v2, .int v3, .ref a] L g (fun r g1 => r = some (.int (nI 1)) ∧ g1 = g) := by
  refine bz_KH.of (by decide) (bz_le rfl) (by decide +kernel) (fun sz => ?_)
  show bz_G _ _ _ _ _ _ _ _ _ _ _ _ 0 [(0, .ref o), (1, .int v1), (2, .int v2), (3, .int v3), (4, .ref a)] []
  refine g_aload (q := 2) dL_mayPass_0 rfl rfl ?_
  refine g_iconst (q := 3) (v := (nI 0)) dL_mayPass_2 rfl (by decide) ?_
  refine g_aload_n (q := 4) dL_mayPass_3 rfl rfl ?_
  refine g_iload_n (q := 5) dL_mayPass_4 rfl rfl ?_
  refine g_iload_n (q := 6) dL_mayPass_5 rfl rfl ?_
  refine g_iload_n (q := 7) dL_mayPass_6 rfl rfl ?_
  refine gh_catch (pre := []) (suf := []) (a9 := 0) (b9 := 19) (h9 := 22) (ct := 19) dL_mayPass_7 (by decide +kernel) (fun z h => by cases h) (by decide) (by decide) cl_IOE xs_IOE kv_L_15 hK rfl hd2 ho hg rfl (bz_le rfl) (fun z1 q9 hz1 => ?_)
  refine g_astore (q := 24) dL_mayPass_22 rfl (by decide) rfl ?_
  refine g_iconst (q := 25) (v := (nI 1)) dL_mayPass_24 rfl (by decide) ?_
  exact gh_iret dL_mayPass_25 rfl hz1 (by decide) (by decide) ⟨rfl, rfl⟩
set_option maxRecDepth 20000 in
set_option maxHeartbeats 1000000 in
theorem hl_holds {l : Launch} {E : bz_E} {L : List Nat} {g : Nat → va_E} {o a d2 : Nat} {v1 v2 : Int32} {fs : List Value} {u : Nat → Int64} {Q : Int32 → (Nat → va_E) → Prop} (hd2 : d2 < 12) (ho : o ∈ L) (hg : g o = .inr (8, fs)) (hK : bz_K l E mX8_holds d2 [.ref o, .int v1, .int v2] L g (fun r g1 => ∃ v : Int32, r = some (.int v) ∧ bz_H L g1 a [eJ E u] ∧ Q v g1)) : bz_KH l E mL_holds tL_holds 12 [.ref o, .int v1, .int v2, .ref a] L g (fun r g1 => r = some (.int (nI 0)) ∧ ∃ (v : Int32) (g9 : Nat → va_E), Q v g9 ∧ bz_B L g9 g1 [(a, [eJ E (vp_updL u 0 (if v = 0 then 0 else 1))])]) := by
  refine bz_KH.of (by decide) (bz_le rfl) (by decide +kernel) (fun sz => ?_)
  show bz_G _ _ _ _ _ _ _ _ _ _ _ _ 0 [(0, .ref o), (1, .int v1), (2, .int v2), (3, .ref a)] []
  refine g_aload_n (q := 1) dL_holds_0 rfl rfl ?_
  refine g_iconst (q := 2) (v := (nI 0)) dL_holds_1 rfl (by decide) ?_
  refine g_aload_n (q := 3) dL_holds_2 rfl rfl ?_
  refine g_iload_n (q := 4) dL_holds_3 rfl rfl ?_
  refine g_iload_n (q := 5) dL_holds_4 rfl rfl ?_
  refine g_callV (q := 8) dL_holds_5 rfl kv_L_21 rfl hK hd2 ho hg rfl (bz_le rfl) (by decide) (by decide) (fun r g1 hQ => ?_)
  obtain ⟨v, rfl, hA, hQ⟩ := hQ
  have hB := bz_B.rf (bz_W.one hA)
  refine g_if_eq (q := 11) (t := 15) dL_holds_8 rfl (by decide) (fun c_8 => ?_) (fun c_8 => ?_)
  · refine g_lconst (q := 16) (v := 0) dL_holds_15 rfl (by decide) ?_
    refine gb_lastN (q := 17) (j := 0) (i := 0) dL_holds_16 rfl hB rfl rfl rfl (by omega) (by decide) (fun g hB => ?_)
    refine g_goto (q := 24) dL_holds_17 (by decide) ?_
    refine g_iconst (q := 25) (v := (nI 0)) dL_holds_24 rfl (by decide) ?_
    exact gh_iret dL_holds_25 rfl (Nat.le_refl _) (by decide) (by decide) ⟨rfl, v, _, hQ, (by first | (rw [if_pos c_8]; exact hB) | (rw [if_neg c_8]; exact hB))⟩
  · refine g_lconst (q := 12) (v := 1) dL_holds_11 rfl (by decide) ?_
    refine g_goto (q := 16) dL_holds_12 (by decide) ?_
    refine gb_lastN (q := 17) (j := 0) (i := 0) dL_holds_16 rfl hB rfl rfl rfl (by omega) (by decide) (fun g hB => ?_)
    refine g_goto (q := 24) dL_holds_17 (by decide) ?_
    refine g_iconst (q := 25) (v := (nI 0)) dL_holds_24 rfl (by decide) ?_
    exact gh_iret dL_holds_25 rfl (Nat.le_refl _) (by decide) (by decide) ⟨rfl, v, _, hQ, (by first | (rw [if_pos c_8]; exact hB) | (rw [if_neg c_8]; exact hB))⟩
set_option maxRecDepth 20000 in
set_option maxHeartbeats 1000000 in
theorem hx_holds_IOE {l : Launch} {E : bz_E} {L : List Nat} {g : Nat → va_E} {o a d2 : Nat} {v1 v2 : Int32} {fs : List Value} (hd2 : d2 < 12) (ho : o ∈ L) (hg : g o = .inr (8, fs)) (hK : bz_KX l E mX8_holds d2 [.ref o, .int v1, .int v2] L g x_IOE) : bz_KH l E mL_holds tL_holds 12 [.ref o, .int v1, .int v2, .ref a] L g (fun r g1 => r = some (.int (nI 1)) ∧ g1 = g) := by
  refine bz_KH.of (by decide) (bz_le rfl) (by decide +kernel) (fun sz => ?_)
  show bz_G _ _ _ _ _ _ _ _ _ _ _ _ 0 [(0, .ref o), (1, .int v1), (2, .int v2), (3, .ref a)] []
  refine g_aload_n (q := 1) dL_holds_0 rfl rfl ?_
  refine g_iconst (q := 2) (v := (nI 0)) dL_holds_1 rfl (by decide) ?_
  refine g_aload_n (q := 3) dL_holds_2 rfl rfl ?_
  refine g_iload_n (q := 4) dL_holds_3 rfl rfl ?_
  refine g_iload_n (q := 5) dL_holds_4 rfl rfl ?_
  refine gh_catch (pre := []) (suf := []) (a9 := 0) (b9 := 17) (h9 := 20) (ct := 19) dL_holds_5 (by decide +kernel) (fun z h => by cases h) (by decide) (by decide) cl_IOE xs_IOE kv_L_21 hK rfl hd2 ho hg rfl (bz_le rfl) (fun z1 q9 hz1 => ?_)
  refine g_astore (q := 22) dL_holds_20 rfl (by decide) rfl ?_
  refine g_iconst (q := 23) (v := (nI 1)) dL_holds_22 rfl (by decide) ?_
  exact gh_iret dL_holds_23 rfl hz1 (by decide) (by decide) ⟨rfl, rfl⟩
set_option maxRecDepth 20000 in
set_option maxHeartbeats 1000000 in
theorem hl_waiting {l : Launch} {E : bz_E} {L : List Nat} {g : Nat → va_E} {o a d2 : Nat} {v1 : Int32} {fs : List Value} {u : Nat → Int64} {Q : Int32 → (Nat → va_E) → Prop} (hd2 : d2 < 12) (ho : o ∈ L) (hg : g o = .inr (8, fs)) (hK : bz_K l E mX8_waiting d2 [.ref o, .int v1] L g (fun r g1 => ∃ v : Int32, r = some (.int v) ∧ bz_H L g1 a [eJ E u] ∧ Q v g1)) : bz_KH l E mL_waiting tL_waiting 12 [.ref o, .int v1, .ref a] L g (fun r g1 => r = some (.int (nI 0)) ∧ ∃ (v : Int32) (g9 : Nat → va_E), Q v g9 ∧ bz_B L g9 g1 [(a, [eJ E (vp_updL u 0 v.toInt64)])]) := by
  refine bz_KH.of (by decide) (bz_le rfl) (by decide +kernel) (fun sz => ?_)
  show bz_G _ _ _ _ _ _ _ _ _ _ _ _ 0 [(0, .ref o), (1, .int v1), (2, .ref a)] []
  refine g_aload_n (q := 1) dL_waiting_0 rfl rfl ?_
  refine g_iconst (q := 2) (v := (nI 0)) dL_waiting_1 rfl (by decide) ?_
  refine g_aload_n (q := 3) dL_waiting_2 rfl rfl ?_
  refine g_iload_n (q := 4) dL_waiting_3 rfl rfl ?_
  refine g_callV (q := 7) dL_waiting_4 rfl kv_L_25 rfl hK hd2 ho hg rfl (bz_le rfl) (by decide) (by decide) (fun r g1 hQ => ?_)
  obtain ⟨v, rfl, hA, hQ⟩ := hQ
  have hB := bz_B.rf (bz_W.one hA)
  refine g_i2l (q := 8) dL_waiting_7 rfl ?_
  refine gb_lastN (q := 9) (j := 0) (i := 0) dL_waiting_8 rfl hB rfl rfl rfl (by omega) (by decide) (fun g hB => ?_)
  refine g_goto (q := 15) dL_waiting_9 (by decide) ?_
  refine g_iconst (q := 16) (v := (nI 0)) dL_waiting_15 rfl (by decide) ?_
  exact gh_iret dL_waiting_16 rfl (Nat.le_refl _) (by decide) (by decide) ⟨rfl, v, _, hQ, hB⟩
set_option maxRecDepth 20000 in
set_option maxHeartbeats 1000000 in
theorem hx_waiting_IOE {l : Launch} {E : bz_E} {L : List Nat} {g : Nat → va_E} {o a d2 : Nat} {v1 : Int32} {fs : List Value} (hd2 : d2 < 12) (ho : o ∈ L) (hg : g o = .inr (8, fs)) (hK : bz_KX l E mX8_waiting d2 [.ref o, .int v1] L g x_IOE) : bz_KH l E mL_waiting tL_waiting 12 [.ref o, .int v1, .ref a] L g (fun r g1 => r = some (.int (nI 1)) ∧ g1 = g) := by
  refine bz_KH.of (by decide) (bz_le rfl) (by decide +kernel) (fun sz => ?_)
  show bz_G _ _ _ _ _ _ _ _ _ _ _ _ 0 [(0, .ref o), (1, .int v1), (2, .ref a)] []
  refine g_aload_n (q := 1) dL_waiting_0 rfl rfl ?_
  refine g_iconst (q := 2) (v := (nI 0)) dL_waiting_1 rfl (by decide) ?_
  refine g_aload_n (q := 3) dL_waiting_2 rfl rfl ?_
  refine g_iload_n (q := 4) dL_waiting_3 rfl rfl ?_
  refine gh_catch (pre := []) (suf := []) (a9 := 0) (b9 := 9) (h9 := 12) (ct := 19) dL_waiting_4 (by decide +kernel) (fun z h => by cases h) (by decide) (by decide) cl_IOE xs_IOE kv_L_25 hK rfl hd2 ho hg rfl (bz_le rfl) (fun z1 q9 hz1 => ?_)
  refine g_astore_n (q := 13) rfl dL_waiting_12 rfl (by decide) rfl ?_
  refine g_iconst (q := 14) (v := (nI 1)) dL_waiting_13 rfl (by decide) ?_
  exact gh_iret dL_waiting_14 rfl hz1 (by decide) (by decide) ⟨rfl, rfl⟩
set_option maxRecDepth 20000 in
set_option maxHeartbeats 1000000 in
theorem hl_kindAt {l : Launch} {E : bz_E} {L : List Nat} {g : Nat → va_E} {o a d2 : Nat} {v1 v2 : Int32} {fs : List Value} {u : Nat → Int64} {Q : Int32 → (Nat → va_E) → Prop} (hd2 : d2 < 12) (ho : o ∈ L) (hg : g o = .inr (8, fs)) (hK : bz_K l E mX8_kindAt d2 [.ref o, .int v1, .int v2] L g (fun r g1 => ∃ v : Int32, r = some (.int v) ∧ bz_H L g1 a [eJ E u] ∧ Q v g1)) : bz_KH l E mL_kindAt tL_kindAt 12 [.ref o, .int v1, .int v2, .ref a] L g (fun r g1 => r = some (.int (nI 0)) ∧ ∃ (v : Int32) (g9 : Nat → va_E), Q v g9 ∧ bz_B L g9 g1 [(a, [eJ E (vp_updL u 0 v.toInt64)])]) := by
  refine bz_KH.of (by decide) (bz_le rfl) (by decide +kernel) (fun sz => ?_)
  show bz_G _ _ _ _ _ _ _ _ _ _ _ _ 0 [(0, .ref o), (1, .int v1), (2, .int v2), (3, .ref a)] []
  refine g_aload_n (q := 1) dL_kindAt_0 rfl rfl ?_
  refine g_iconst (q := 2) (v := (nI 0)) dL_kindAt_1 rfl (by decide) ?_
  refine g_aload_n (q := 3) dL_kindAt_2 rfl rfl ?_
  refine g_iload_n (q := 4) dL_kindAt_3 rfl rfl ?_
  refine g_iload_n (q := 5) dL_kindAt_4 rfl rfl ?_
  refine g_callV (q := 8) dL_kindAt_5 rfl kv_L_28 rfl hK hd2 ho hg rfl (bz_le rfl) (by decide) (by decide) (fun r g1 hQ => ?_)
  obtain ⟨v, rfl, hA, hQ⟩ := hQ
  have hB := bz_B.rf (bz_W.one hA)
  refine g_i2l (q := 9) dL_kindAt_8 rfl ?_
  refine gb_lastN (q := 10) (j := 0) (i := 0) dL_kindAt_9 rfl hB rfl rfl rfl (by omega) (by decide) (fun g hB => ?_)
  refine g_goto (q := 17) dL_kindAt_10 (by decide) ?_
  refine g_iconst (q := 18) (v := (nI 0)) dL_kindAt_17 rfl (by decide) ?_
  exact gh_iret dL_kindAt_18 rfl (Nat.le_refl _) (by decide) (by decide) ⟨rfl, v, _, hQ, hB⟩
set_option maxRecDepth 20000 in
set_option maxHeartbeats 1000000 in
theorem hx_kindAt_IOE {l : Launch} {E : bz_E} {L : List Nat} {g : Nat → va_E} {o a d2 : Nat} {v1 v2 : Int32} {fs : List Value} (hd2 : d2 < 12) (ho : o ∈ L) (hg : g o = .inr (8, fs)) (hK : bz_KX l E mX8_kindAt d2 [.ref o, .int v1, .int v2] L g x_IOE) : bz_KH l E mL_kindAt tL_kindAt 12 [.ref o, .int v1, .int v2, .ref a] L g (fun r g1 => r = some (.int (nI 1)) ∧ g1 = g) := by
  refine bz_KH.of (by decide) (bz_le rfl) (by decide +kernel) (fun sz => ?_)
  show bz_G _ _ _ _ _ _ _ _ _ _ _ _ 0 [(0, .ref o), (1, .int v1), (2, .int v2), (3, .ref a)] []
  refine g_aload_n (q := 1) dL_kindAt_0 rfl rfl ?_
  refine g_iconst (q := 2) (v := (nI 0)) dL_kindAt_1 rfl (by decide) ?_
  refine g_aload_n (q := 3) dL_kindAt_2 rfl rfl ?_
  refine g_iload_n (q := 4) dL_kindAt_3 rfl rfl ?_
  refine g_iload_n (q := 5) dL_kindAt_4 rfl rfl ?_
  refine gh_catch (pre := []) (suf := []) (a9 := 0) (b9 := 10) (h9 := 13) (ct := 19) dL_kindAt_5 (by decide +kernel) (fun z h => by cases h) (by decide) (by decide) cl_IOE xs_IOE kv_L_28 hK rfl hd2 ho hg rfl (bz_le rfl) (fun z1 q9 hz1 => ?_)
  refine g_astore (q := 15) dL_kindAt_13 rfl (by decide) rfl ?_
  refine g_iconst (q := 16) (v := (nI 1)) dL_kindAt_15 rfl (by decide) ?_
  exact gh_iret dL_kindAt_16 rfl hz1 (by decide) (by decide) ⟨rfl, rfl⟩
set_option maxRecDepth 20000 in
set_option maxHeartbeats 1000000 in
theorem hl_tagAt {l : Launch} {E : bz_E} {L : List Nat} {g : Nat → va_E} {o a d2 : Nat} {v1 v2 : Int32} {fs : List Value} {u : Nat → Int64} {Q : Int32 → (Nat → va_E) → Prop} (hd2 : d2 < 12) (ho : o ∈ L) (hg : g o = .inr (8, fs)) (hK : bz_K l E mX8_tagAt d2 [.ref o, .int v1, .int v2] L g (fun r g1 => ∃ v : Int32, r = some (.int v) ∧ bz_H L g1 a [eJ E u] ∧ Q v g1)) : bz_KH l E mL_tagAt tL_tagAt 12 [.ref o, .int v1, .int v2, .ref a] L g (fun r g1 => r = some (.int (nI 0)) ∧ ∃ (v : Int32) (g9 : Nat → va_E), Q v g9 ∧ bz_B L g9 g1 [(a, [eJ E (vp_updL u 0 v.toInt64)])]) := by
  refine bz_KH.of (by decide) (bz_le rfl) (by decide +kernel) (fun sz => ?_)
  show bz_G _ _ _ _ _ _ _ _ _ _ _ _ 0 [(0, .ref o), (1, .int v1), (2, .int v2), (3, .ref a)] []
  refine g_aload_n (q := 1) dL_tagAt_0 rfl rfl ?_
  refine g_iconst (q := 2) (v := (nI 0)) dL_tagAt_1 rfl (by decide) ?_
  refine g_aload_n (q := 3) dL_tagAt_2 rfl rfl ?_
  refine g_iload_n (q := 4) dL_tagAt_3 rfl rfl ?_
  refine g_iload_n (q := 5) dL_tagAt_4 rfl rfl ?_
  refine g_callV (q := 8) dL_tagAt_5 rfl kv_L_32 rfl hK hd2 ho hg rfl (bz_le rfl) (by decide) (by decide) (fun r g1 hQ => ?_)
  obtain ⟨v, rfl, hA, hQ⟩ := hQ
  have hB := bz_B.rf (bz_W.one hA)
  refine g_i2l (q := 9) dL_tagAt_8 rfl ?_
  refine gb_lastN (q := 10) (j := 0) (i := 0) dL_tagAt_9 rfl hB rfl rfl rfl (by omega) (by decide) (fun g hB => ?_)
  refine g_goto (q := 17) dL_tagAt_10 (by decide) ?_
  refine g_iconst (q := 18) (v := (nI 0)) dL_tagAt_17 rfl (by decide) ?_
  exact gh_iret dL_tagAt_18 rfl (Nat.le_refl _) (by decide) (by decide) ⟨rfl, v, _, hQ, hB⟩
set_option maxRecDepth 20000 in
set_option maxHeartbeats 1000000 in
theorem hx_tagAt_IOE {l : Launch} {E : bz_E} {L : List Nat} {g : Nat → va_E} {o a d2 : Nat} {v1 v2 : Int32} {fs : List Value} (hd2 : d2 < 12) (ho : o ∈ L) (hg : g o = .inr (8, fs)) (hK : bz_KX l E mX8_tagAt d2 [.ref o, .int v1, .int v2] L g x_IOE) : bz_KH l E mL_tagAt tL_tagAt 12 [.ref o, .int v1, .int v2, .ref a] L g (fun r g1 => r = some (.int (nI 1)) ∧ g1 = g) := by
  refine bz_KH.of (by decide) (bz_le rfl) (by decide +kernel) (fun sz => ?_)
  show bz_G _ _ _ _ _ _ _ _ _ _ _ _ 0 [(0, .ref o), (1, .int v1), (2, .int v2), (3, .ref a)] []
  refine g_aload_n (q := 1) dL_tagAt_0 rfl rfl ?_
  refine g_iconst (q := 2) (v := (nI 0)) dL_tagAt_1 rfl (by decide) ?_
  refine g_aload_n (q := 3) dL_tagAt_2 rfl rfl ?_
  refine g_iload_n (q := 4) dL_tagAt_3 rfl rfl ?_
  refine g_iload_n (q := 5) dL_tagAt_4 rfl rfl ?_
  refine gh_catch (pre := []) (suf := []) (a9 := 0) (b9 := 10) (h9 := 13) (ct := 19) dL_tagAt_5 (by decide +kernel) (fun z h => by cases h) (by decide) (by decide) cl_IOE xs_IOE kv_L_32 hK rfl hd2 ho hg rfl (bz_le rfl) (fun z1 q9 hz1 => ?_)
  refine g_astore (q := 15) dL_tagAt_13 rfl (by decide) rfl ?_
  refine g_iconst (q := 16) (v := (nI 1)) dL_tagAt_15 rfl (by decide) ?_
  exact gh_iret dL_tagAt_16 rfl hz1 (by decide) (by decide) ⟨rfl, rfl⟩
set_option maxRecDepth 20000 in
set_option maxHeartbeats 1000000 in
theorem hl_blockers {l : Launch} {E : bz_E} {L : List Nat} {g : Nat → va_E} {o a d2 : Nat} {v1 v2 : Int32} {fs : List Value} {u : Nat → Int64} {Q : Int32 → (Nat → va_E) → Prop} (hd2 : d2 < 12) (ho : o ∈ L) (hg : g o = .inr (8, fs)) (hK : bz_K l E mX8_blockers d2 [.ref o, .int v1, .int v2] L g (fun r g1 => ∃ v : Int32, r = some (.int v) ∧ bz_H L g1 a [eJ E u] ∧ Q v g1)) : bz_KH l E mL_blockers tL_blockers 12 [.ref o, .int v1, .int v2, .ref a] L g (fun r g1 => r = some (.int (nI 0)) ∧ ∃ (v : Int32) (g9 : Nat → va_E), Q v g9 ∧ bz_B L g9 g1 [(a, [eJ E (vp_updL u 0 v.toInt64)])]) := by
  refine bz_KH.of (by decide) (bz_le rfl) (by decide +kernel) (fun sz => ?_)
  show bz_G _ _ _ _ _ _ _ _ _ _ _ _ 0 [(0, .ref o), (1, .int v1), (2, .int v2), (3, .ref a)] []
  refine g_aload_n (q := 1) dL_blockers_0 rfl rfl ?_
  refine g_iconst (q := 2) (v := (nI 0)) dL_blockers_1 rfl (by decide) ?_
  refine g_aload_n (q := 3) dL_blockers_2 rfl rfl ?_
  refine g_iload_n (q := 4) dL_blockers_3 rfl rfl ?_
  refine g_iload_n (q := 5) dL_blockers_4 rfl rfl ?_
  refine g_callV (q := 8) dL_blockers_5 rfl kv_L_35 rfl hK hd2 ho hg rfl (bz_le rfl) (by decide) (by decide) (fun r g1 hQ => ?_)
  obtain ⟨v, rfl, hA, hQ⟩ := hQ
  have hB := bz_B.rf (bz_W.one hA)
  refine g_i2l (q := 9) dL_blockers_8 rfl ?_
  refine gb_lastN (q := 10) (j := 0) (i := 0) dL_blockers_9 rfl hB rfl rfl rfl (by omega) (by decide) (fun g hB => ?_)
  refine g_goto (q := 17) dL_blockers_10 (by decide) ?_
  refine g_iconst (q := 18) (v := (nI 0)) dL_blockers_17 rfl (by decide) ?_
  exact gh_iret dL_blockers_18 rfl (Nat.le_refl _) (by decide) (by decide) ⟨rfl, v, _, hQ, hB⟩
set_option maxRecDepth 20000 in
set_option maxHeartbeats 1000000 in
theorem hx_blockers_IOE {l : Launch} {E : bz_E} {L : List Nat} {g : Nat → va_E} {o a d2 : Nat} {v1 v2 : Int32} {fs : List Value} (hd2 : d2 < 12) (ho : o ∈ L) (hg : g o = .inr (8, fs)) (hK : bz_KX l E mX8_blockers d2 [.ref o, .int v1, .int v2] L g x_IOE) : bz_KH l E mL_blockers tL_blockers 12 [.ref o, .int v1, .int v2, .ref a] L g (fun r g1 => r = some (.int (nI 1)) ∧ g1 = g) := by
  refine bz_KH.of (by decide) (bz_le rfl) (by decide +kernel) (fun sz => ?_)
  show bz_G _ _ _ _ _ _ _ _ _ _ _ _ 0 [(0, .ref o), (1, .int v1), (2, .int v2), (3, .ref a)] []
  refine g_aload_n (q := 1) dL_blockers_0 rfl rfl ?_
  refine g_iconst (q := 2) (v := (nI 0)) dL_blockers_1 rfl (by decide) ?_
  refine g_aload_n (q := 3) dL_blockers_2 rfl rfl ?_
  refine g_iload_n (q := 4) dL_blockers_3 rfl rfl ?_
  refine g_iload_n (q := 5) dL_blockers_4 rfl rfl ?_
  refine gh_catch (pre := []) (suf := []) (a9 := 0) (b9 := 10) (h9 := 13) (ct := 19) dL_blockers_5 (by decide +kernel) (fun z h => by cases h) (by decide) (by decide) cl_IOE xs_IOE kv_L_35 hK rfl hd2 ho hg rfl (bz_le rfl) (fun z1 q9 hz1 => ?_)
  refine g_astore (q := 15) dL_blockers_13 rfl (by decide) rfl ?_
  refine g_iconst (q := 16) (v := (nI 1)) dL_blockers_15 rfl (by decide) ?_
  exact gh_iret dL_blockers_16 rfl hz1 (by decide) (by decide) ⟨rfl, rfl⟩
set_option maxRecDepth 20000 in
set_option maxHeartbeats 1000000 in
theorem hl_next {l : Launch} {E : bz_E} {L : List Nat} {g : Nat → va_E} {o a d2 : Nat} {v1 : Int32} {fs : List Value} {u : Nat → Int64} {Q : Int32 → (Nat → va_E) → Prop} (hd2 : d2 < 12) (ho : o ∈ L) (hg : g o = .inr (8, fs)) (hK : bz_K l E mX8_next d2 [.ref o, .int v1] L g (fun r g1 => ∃ v : Int32, r = some (.int v) ∧ bz_H L g1 a [eJ E u] ∧ Q v g1)) : bz_KH l E mL_next tL_next 12 [.ref o, .int v1, .ref a] L g (fun r g1 => r = some (.int (nI 0)) ∧ ∃ (v : Int32) (g9 : Nat → va_E), Q v g9 ∧ bz_B L g9 g1 [(a, [eJ E (vp_updL u 0 v.toInt64)])]) := by
  refine bz_KH.of (by decide) (bz_le rfl) (by decide +kernel) (fun sz => ?_)
  show bz_G _ _ _ _ _ _ _ _ _ _ _ _ 0 [(0, .ref o), (1, .int v1), (2, .ref a)] []
  refine g_aload_n (q := 1) dL_next_0 rfl rfl ?_
  refine g_iconst (q := 2) (v := (nI 0)) dL_next_1 rfl (by decide) ?_
  refine g_aload_n (q := 3) dL_next_2 rfl rfl ?_
  refine g_iload_n (q := 4) dL_next_3 rfl rfl ?_
  refine g_callV (q := 7) dL_next_4 rfl kv_L_38 rfl hK hd2 ho hg rfl (bz_le rfl) (by decide) (by decide) (fun r g1 hQ => ?_)
  obtain ⟨v, rfl, hA, hQ⟩ := hQ
  have hB := bz_B.rf (bz_W.one hA)
  refine g_i2l (q := 8) dL_next_7 rfl ?_
  refine gb_lastN (q := 9) (j := 0) (i := 0) dL_next_8 rfl hB rfl rfl rfl (by omega) (by decide) (fun g hB => ?_)
  refine g_goto (q := 15) dL_next_9 (by decide) ?_
  refine g_iconst (q := 16) (v := (nI 0)) dL_next_15 rfl (by decide) ?_
  exact gh_iret dL_next_16 rfl (Nat.le_refl _) (by decide) (by decide) ⟨rfl, v, _, hQ, hB⟩
set_option maxRecDepth 20000 in
set_option maxHeartbeats 1000000 in
theorem hx_next_IOE {l : Launch} {E : bz_E} {L : List Nat} {g : Nat → va_E} {o a d2 : Nat} {v1 : Int32} {fs : List Value} (hd2 : d2 < 12) (ho : o ∈ L) (hg : g o = .inr (8, fs)) (hK : bz_KX l E mX8_next d2 [.ref o, .int v1] L g x_IOE) : bz_KH l E mL_next tL_next 12 [.ref o, .int v1, .ref a] L g (fun r g1 => r = some (.int (nI 1)) ∧ g1 = g) := by
  refine bz_KH.of (by decide) (bz_le rfl) (by decide +kernel) (fun sz => ?_)
  show bz_G _ _ _ _ _ _ _ _ _ _ _ _ 0 [(0, .ref o), (1, .int v1), (2, .ref a)] []
  refine g_aload_n (q := 1) dL_next_0 rfl rfl ?_
  refine g_iconst (q := 2) (v := (nI 0)) dL_next_1 rfl (by decide) ?_
  refine g_aload_n (q := 3) dL_next_2 rfl rfl ?_
  refine g_iload_n (q := 4) dL_next_3 rfl rfl ?_
  refine gh_catch (pre := []) (suf := []) (a9 := 0) (b9 := 9) (h9 := 12) (ct := 19) dL_next_4 (by decide +kernel) (fun z h => by cases h) (by decide) (by decide) cl_IOE xs_IOE kv_L_38 hK rfl hd2 ho hg rfl (bz_le rfl) (fun z1 q9 hz1 => ?_)
  refine g_astore_n (q := 13) rfl dL_next_12 rfl (by decide) rfl ?_
  refine g_iconst (q := 14) (v := (nI 1)) dL_next_13 rfl (by decide) ?_
  exact gh_iret dL_next_14 rfl hz1 (by decide) (by decide) ⟨rfl, rfl⟩
set_option maxRecDepth 20000 in
set_option maxHeartbeats 1000000 in
theorem hl_held {l : Launch} {E : bz_E} {L : List Nat} {g : Nat → va_E} {o a d2 : Nat} {v1 v2 : Int32} {fs : List Value} {u : Nat → Int64} {Q : Int32 → (Nat → va_E) → Prop} (hd2 : d2 < 12) (ho : o ∈ L) (hg : g o = .inr (8, fs)) (hK : bz_K l E mX8_held d2 [.ref o, .int v1, .int v2] L g (fun r g1 => ∃ v : Int32, r = some (.int v) ∧ bz_H L g1 a [eJ E u] ∧ Q v g1)) : bz_KH l E mL_held tL_held 12 [.ref o, .int v1, .int v2, .ref a] L g (fun r g1 => r = some (.int (nI 0)) ∧ ∃ (v : Int32) (g9 : Nat → va_E), Q v g9 ∧ bz_B L g9 g1 [(a, [eJ E (vp_updL u 0 v.toInt64)])]) := by
  refine bz_KH.of (by decide) (bz_le rfl) (by decide +kernel) (fun sz => ?_)
  show bz_G _ _ _ _ _ _ _ _ _ _ _ _ 0 [(0, .ref o), (1, .int v1), (2, .int v2), (3, .ref a)] []
  refine g_aload_n (q := 1) dL_held_0 rfl rfl ?_
  refine g_iconst (q := 2) (v := (nI 0)) dL_held_1 rfl (by decide) ?_
  refine g_aload_n (q := 3) dL_held_2 rfl rfl ?_
  refine g_iload_n (q := 4) dL_held_3 rfl rfl ?_
  refine g_iload_n (q := 5) dL_held_4 rfl rfl ?_
  refine g_callV (q := 8) dL_held_5 rfl kv_L_41 rfl hK hd2 ho hg rfl (bz_le rfl) (by decide) (by decide) (fun r g1 hQ => ?_)
  obtain ⟨v, rfl, hA, hQ⟩ := hQ
  have hB := bz_B.rf (bz_W.one hA)
  refine g_i2l (q := 9) dL_held_8 rfl ?_
  refine gb_lastN (q := 10) (j := 0) (i := 0) dL_held_9 rfl hB rfl rfl rfl (by omega) (by decide) (fun g hB => ?_)
  refine g_goto (q := 17) dL_held_10 (by decide) ?_
  refine g_iconst (q := 18) (v := (nI 0)) dL_held_17 rfl (by decide) ?_
  exact gh_iret dL_held_18 rfl (Nat.le_refl _) (by decide) (by decide) ⟨rfl, v, _, hQ, hB⟩
set_option maxRecDepth 20000 in
set_option maxHeartbeats 1000000 in
theorem hx_held_IOE {l : Launch} {E : bz_E} {L : List Nat} {g : Nat → va_E} {o a d2 : Nat} {v1 v2 : Int32} {fs : List Value} (hd2 : d2 < 12) (ho : o ∈ L) (hg : g o = .inr (8, fs)) (hK : bz_KX l E mX8_held d2 [.ref o, .int v1, .int v2] L g x_IOE) : bz_KH l E mL_held tL_held 12 [.ref o, .int v1, .int v2, .ref a] L g (fun r g1 => r = some (.int (nI 1)) ∧ g1 = g) := by
  refine bz_KH.of (by decide) (bz_le rfl) (by decide +kernel) (fun sz => ?_)
  show bz_G _ _ _ _ _ _ _ _ _ _ _ _ 0 [(0, .ref o), (1, .int v1), (2, .int v2), (3, .ref a)] []
  refine g_aload_n (q := 1) dL_held_0 rfl rfl ?_
  refine g_iconst (q := 2) (v := (nI 0)) dL_held_1 rfl (by decide) ?_
  refine g_aload_n (q := 3) dL_held_2 rfl rfl ?_
  refine g_iload_n (q := 4) dL_held_3 rfl rfl ?_
  refine g_iload_n (q := 5) dL_held_4 rfl rfl ?_
  refine gh_catch (pre := []) (suf := []) (a9 := 0) (b9 := 10) (h9 := 13) (ct := 19) dL_held_5 (by decide +kernel) (fun z h => by cases h) (by decide) (by decide) cl_IOE xs_IOE kv_L_41 hK rfl hd2 ho hg rfl (bz_le rfl) (fun z1 q9 hz1 => ?_)
  refine g_astore (q := 15) dL_held_13 rfl (by decide) rfl ?_
  refine g_iconst (q := 16) (v := (nI 1)) dL_held_15 rfl (by decide) ?_
  exact gh_iret dL_held_16 rfl hz1 (by decide) (by decide) ⟨rfl, rfl⟩
set_option maxRecDepth 20000 in
set_option maxHeartbeats 1000000 in
theorem hl_word {l : Launch} {E : bz_E} {L : List Nat} {g : Nat → va_E} {o a d2 : Nat} {v1 v2 : Int32} {fs : List Value} {u : Nat → Int64} {Q : Int32 → (Nat → va_E) → Prop} (hd2 : d2 < 12) (ho : o ∈ L) (hg : g o = .inr (8, fs)) (hK : bz_K l E mX8_word d2 [.ref o, .int v1, .int v2] L g (fun r g1 => ∃ v : Int32, r = some (.int v) ∧ bz_H L g1 a [eJ E u] ∧ Q v g1)) : bz_KH l E mL_word tL_word 12 [.ref o, .int v1, .int v2, .ref a] L g (fun r g1 => r = some (.int (nI 0)) ∧ ∃ (v : Int32) (g9 : Nat → va_E), Q v g9 ∧ bz_B L g9 g1 [(a, [eJ E (vp_updL u 0 v.toInt64)])]) := by
  refine bz_KH.of (by decide) (bz_le rfl) (by decide +kernel) (fun sz => ?_)
  show bz_G _ _ _ _ _ _ _ _ _ _ _ _ 0 [(0, .ref o), (1, .int v1), (2, .int v2), (3, .ref a)] []
  refine g_aload_n (q := 1) dL_word_0 rfl rfl ?_
  refine g_iconst (q := 2) (v := (nI 0)) dL_word_1 rfl (by decide) ?_
  refine g_aload_n (q := 3) dL_word_2 rfl rfl ?_
  refine g_iload_n (q := 4) dL_word_3 rfl rfl ?_
  refine g_iload_n (q := 5) dL_word_4 rfl rfl ?_
  refine g_callV (q := 8) dL_word_5 rfl kv_L_44 rfl hK hd2 ho hg rfl (bz_le rfl) (by decide) (by decide) (fun r g1 hQ => ?_)
  obtain ⟨v, rfl, hA, hQ⟩ := hQ
  have hB := bz_B.rf (bz_W.one hA)
  refine g_i2l (q := 9) dL_word_8 rfl ?_
  refine gb_lastN (q := 10) (j := 0) (i := 0) dL_word_9 rfl hB rfl rfl rfl (by omega) (by decide) (fun g hB => ?_)
  refine g_goto (q := 17) dL_word_10 (by decide) ?_
  refine g_iconst (q := 18) (v := (nI 0)) dL_word_17 rfl (by decide) ?_
  exact gh_iret dL_word_18 rfl (Nat.le_refl _) (by decide) (by decide) ⟨rfl, v, _, hQ, hB⟩
set_option maxRecDepth 20000 in
set_option maxHeartbeats 1000000 in
theorem hx_word_IOE {l : Launch} {E : bz_E} {L : List Nat} {g : Nat → va_E} {o a d2 : Nat} {v1 v2 : Int32} {fs : List Value} (hd2 : d2 < 12) (ho : o ∈ L) (hg : g o = .inr (8, fs)) (hK : bz_KX l E mX8_word d2 [.ref o, .int v1, .int v2] L g x_IOE) : bz_KH l E mL_word tL_word 12 [.ref o, .int v1, .int v2, .ref a] L g (fun r g1 => r = some (.int (nI 1)) ∧ g1 = g) := by
  refine bz_KH.of (by decide) (bz_le rfl) (by decide +kernel) (fun sz => ?_)
  show bz_G _ _ _ _ _ _ _ _ _ _ _ _ 0 [(0, .ref o), (1, .int v1), (2, .int v2), (3, .ref a)] []
  refine g_aload_n (q := 1) dL_word_0 rfl rfl ?_
  refine g_iconst (q := 2) (v := (nI 0)) dL_word_1 rfl (by decide) ?_
  refine g_aload_n (q := 3) dL_word_2 rfl rfl ?_
  refine g_iload_n (q := 4) dL_word_3 rfl rfl ?_
  refine g_iload_n (q := 5) dL_word_4 rfl rfl ?_
  refine gh_catch (pre := []) (suf := []) (a9 := 0) (b9 := 10) (h9 := 13) (ct := 19) dL_word_5 (by decide +kernel) (fun z h => by cases h) (by decide) (by decide) cl_IOE xs_IOE kv_L_44 hK rfl hd2 ho hg rfl (bz_le rfl) (fun z1 q9 hz1 => ?_)
  refine g_astore (q := 15) dL_word_13 rfl (by decide) rfl ?_
  refine g_iconst (q := 16) (v := (nI 1)) dL_word_15 rfl (by decide) ?_
  exact gh_iret dL_word_16 rfl hz1 (by decide) (by decide) ⟨rfl, rfl⟩
set_option maxRecDepth 20000 in
set_option maxHeartbeats 1000000 in
theorem hl_tagState {l : Launch} {E : bz_E} {L : List Nat} {g : Nat → va_E} {o a d2 : Nat} {v1 v2 : Int32} {fs : List Value} {u : Nat → Int64} {Q : Int32 → (Nat → va_E) → Prop} (hd2 : d2 < 12) (ho : o ∈ L) (hg : g o = .inr (8, fs)) (hK : bz_K l E mX8_tagState d2 [.ref o, .int v1, .int v2] L g (fun r g1 => ∃ v : Int32, r = some (.int v) ∧ bz_H L g1 a [eJ E u] ∧ Q v g1)) : bz_KH l E mL_tagState tL_tagState 12 [.ref o, .int v1, .int v2, .ref a] L g (fun r g1 => r = some (.int (nI 0)) ∧ ∃ (v : Int32) (g9 : Nat → va_E), Q v g9 ∧ bz_B L g9 g1 [(a, [eJ E (vp_updL u 0 v.toInt64)])]) := by
  refine bz_KH.of (by decide) (bz_le rfl) (by decide +kernel) (fun sz => ?_)
  show bz_G _ _ _ _ _ _ _ _ _ _ _ _ 0 [(0, .ref o), (1, .int v1), (2, .int v2), (3, .ref a)] []
  refine g_aload_n (q := 1) dL_tagState_0 rfl rfl ?_
  refine g_iconst (q := 2) (v := (nI 0)) dL_tagState_1 rfl (by decide) ?_
  refine g_aload_n (q := 3) dL_tagState_2 rfl rfl ?_
  refine g_iload_n (q := 4) dL_tagState_3 rfl rfl ?_
  refine g_iload_n (q := 5) dL_tagState_4 rfl rfl ?_
  refine g_callV (q := 8) dL_tagState_5 rfl kv_L_47 rfl hK hd2 ho hg rfl (bz_le rfl) (by decide) (by decide) (fun r g1 hQ => ?_)
  obtain ⟨v, rfl, hA, hQ⟩ := hQ
  have hB := bz_B.rf (bz_W.one hA)
  refine g_i2l (q := 9) dL_tagState_8 rfl ?_
  refine gb_lastN (q := 10) (j := 0) (i := 0) dL_tagState_9 rfl hB rfl rfl rfl (by omega) (by decide) (fun g hB => ?_)
  refine g_goto (q := 17) dL_tagState_10 (by decide) ?_
  refine g_iconst (q := 18) (v := (nI 0)) dL_tagState_17 rfl (by decide) ?_
  exact gh_iret dL_tagState_18 rfl (Nat.le_refl _) (by decide) (by decide) ⟨rfl, v, _, hQ, hB⟩
set_option maxRecDepth 20000 in
set_option maxHeartbeats 1000000 in
theorem hx_tagState_IOE {l : Launch} {E : bz_E} {L : List Nat} {g : Nat → va_E} {o a d2 : Nat} {v1 v2 : Int32} {fs : List Value} (hd2 : d2 < 12) (ho : o ∈ L) (hg : g o = .inr (8, fs)) (hK : bz_KX l E mX8_tagState d2 [.ref o, .int v1, .int v2] L g x_IOE) : bz_KH l E mL_tagState tL_tagState 12 [.ref o, .int v1, .int v2, .ref a] L g (fun r g1 => r = some (.int (nI 1)) ∧ g1 = g) := by
  refine bz_KH.of (by decide) (bz_le rfl) (by decide +kernel) (fun sz => ?_)
  show bz_G _ _ _ _ _ _ _ _ _ _ _ _ 0 [(0, .ref o), (1, .int v1), (2, .int v2), (3, .ref a)] []
  refine g_aload_n (q := 1) dL_tagState_0 rfl rfl ?_
  refine g_iconst (q := 2) (v := (nI 0)) dL_tagState_1 rfl (by decide) ?_
  refine g_aload_n (q := 3) dL_tagState_2 rfl rfl ?_
  refine g_iload_n (q := 4) dL_tagState_3 rfl rfl ?_
  refine g_iload_n (q := 5) dL_tagState_4 rfl rfl ?_
  refine gh_catch (pre := []) (suf := []) (a9 := 0) (b9 := 10) (h9 := 13) (ct := 19) dL_tagState_5 (by decide +kernel) (fun z h => by cases h) (by decide) (by decide) cl_IOE xs_IOE kv_L_47 hK rfl hd2 ho hg rfl (bz_le rfl) (fun z1 q9 hz1 => ?_)
  refine g_astore (q := 15) dL_tagState_13 rfl (by decide) rfl ?_
  refine g_iconst (q := 16) (v := (nI 1)) dL_tagState_15 rfl (by decide) ?_
  exact gh_iret dL_tagState_16 rfl hz1 (by decide) (by decide) ⟨rfl, rfl⟩
set_option maxRecDepth 20000 in
set_option maxHeartbeats 1000000 in
theorem hl_stored {l : Launch} {E : bz_E} {L : List Nat} {g : Nat → va_E} {o a d2 : Nat} {v1 v2 : Int32} {fs : List Value} {u : Nat → Int64} {Q : Int32 → (Nat → va_E) → Prop} (hd2 : d2 < 12) (ho : o ∈ L) (hg : g o = .inr (8, fs)) (hK : bz_K l E mX8_stored d2 [.ref o, .int v1, .int v2] L g (fun r g1 => ∃ v : Int32, r = some (.int v) ∧ bz_H L g1 a [eJ E u] ∧ Q v g1)) : bz_KH l E mL_stored tL_stored 12 [.ref o, .int v1, .int v2, .ref a] L g (fun r g1 => r = some (.int (nI 0)) ∧ ∃ (v : Int32) (g9 : Nat → va_E), Q v g9 ∧ bz_B L g9 g1 [(a, [eJ E (vp_updL u 0 v.toInt64)])]) := by
  refine bz_KH.of (by decide) (bz_le rfl) (by decide +kernel) (fun sz => ?_)
  show bz_G _ _ _ _ _ _ _ _ _ _ _ _ 0 [(0, .ref o), (1, .int v1), (2, .int v2), (3, .ref a)] []
  refine g_aload_n (q := 1) dL_stored_0 rfl rfl ?_
  refine g_iconst (q := 2) (v := (nI 0)) dL_stored_1 rfl (by decide) ?_
  refine g_aload_n (q := 3) dL_stored_2 rfl rfl ?_
  refine g_iload_n (q := 4) dL_stored_3 rfl rfl ?_
  refine g_iload_n (q := 5) dL_stored_4 rfl rfl ?_
  refine g_callV (q := 8) dL_stored_5 rfl kv_L_50 rfl hK hd2 ho hg rfl (bz_le rfl) (by decide) (by decide) (fun r g1 hQ => ?_)
  obtain ⟨v, rfl, hA, hQ⟩ := hQ
  have hB := bz_B.rf (bz_W.one hA)
  refine g_i2l (q := 9) dL_stored_8 rfl ?_
  refine gb_lastN (q := 10) (j := 0) (i := 0) dL_stored_9 rfl hB rfl rfl rfl (by omega) (by decide) (fun g hB => ?_)
  refine g_goto (q := 17) dL_stored_10 (by decide) ?_
  refine g_iconst (q := 18) (v := (nI 0)) dL_stored_17 rfl (by decide) ?_
  exact gh_iret dL_stored_18 rfl (Nat.le_refl _) (by decide) (by decide) ⟨rfl, v, _, hQ, hB⟩
set_option maxRecDepth 20000 in
set_option maxHeartbeats 1000000 in
theorem hx_stored_IOE {l : Launch} {E : bz_E} {L : List Nat} {g : Nat → va_E} {o a d2 : Nat} {v1 v2 : Int32} {fs : List Value} (hd2 : d2 < 12) (ho : o ∈ L) (hg : g o = .inr (8, fs)) (hK : bz_KX l E mX8_stored d2 [.ref o, .int v1, .int v2] L g x_IOE) : bz_KH l E mL_stored tL_stored 12 [.ref o, .int v1, .int v2, .ref a] L g (fun r g1 => r = some (.int (nI 1)) ∧ g1 = g) := by
  refine bz_KH.of (by decide) (bz_le rfl) (by decide +kernel) (fun sz => ?_)
  show bz_G _ _ _ _ _ _ _ _ _ _ _ _ 0 [(0, .ref o), (1, .int v1), (2, .int v2), (3, .ref a)] []
  refine g_aload_n (q := 1) dL_stored_0 rfl rfl ?_
  refine g_iconst (q := 2) (v := (nI 0)) dL_stored_1 rfl (by decide) ?_
  refine g_aload_n (q := 3) dL_stored_2 rfl rfl ?_
  refine g_iload_n (q := 4) dL_stored_3 rfl rfl ?_
  refine g_iload_n (q := 5) dL_stored_4 rfl rfl ?_
  refine gh_catch (pre := []) (suf := []) (a9 := 0) (b9 := 10) (h9 := 13) (ct := 19) dL_stored_5 (by decide +kernel) (fun z h => by cases h) (by decide) (by decide) cl_IOE xs_IOE kv_L_50 hK rfl hd2 ho hg rfl (bz_le rfl) (fun z1 q9 hz1 => ?_)
  refine g_astore (q := 15) dL_stored_13 rfl (by decide) rfl ?_
  refine g_iconst (q := 16) (v := (nI 1)) dL_stored_15 rfl (by decide) ?_
  exact gh_iret dL_stored_16 rfl hz1 (by decide) (by decide) ⟨rfl, rfl⟩
set_option maxRecDepth 20000 in
set_option maxHeartbeats 1000000 in
theorem hl_data {l : Launch} {E : bz_E} {L : List Nat} {g : Nat → va_E} {o a d2 : Nat} {v1 v2 v3 : Int32} {fs : List Value} {u : Nat → Int64} {Q : Int32 → (Nat → va_E) → Prop} (hd2 : d2 < 12) (ho : o ∈ L) (hg : g o = .inr (8, fs)) (hK : bz_K l E mX8_data d2 [.ref o, .int v1, .int v2, .int v3] L g (fun r g1 => ∃ v : Int32, r = some (.int v) ∧ bz_H L g1 a [eJ E u] ∧ Q v g1)) : bz_KH l E mL_data tL_data 12 [.ref o, .int v1, .int v2, .int v3, .ref a] L g (fun r g1 => r = some (.int (nI 0)) ∧ ∃ (v : Int32) (g9 : Nat → va_E), Q v g9 ∧ bz_B L g9 g1 [(a, [eJ E (vp_updL u 0 v.toInt64)])]) := by
  refine bz_KH.of (by decide) (bz_le rfl) (by decide +kernel) (fun sz => ?_)
  show bz_G _ _ _ _ _ _ _ _ _ _ _ _ 0 [(0, .ref o), (1, .int v1), (2, .int v2), (3, .int v3), (4, .ref a)] []
  refine g_aload (q := 2) dL_data_0 rfl rfl ?_
  refine g_iconst (q := 3) (v := (nI 0)) dL_data_2 rfl (by decide) ?_
  refine g_aload_n (q := 4) dL_data_3 rfl rfl ?_
  refine g_iload_n (q := 5) dL_data_4 rfl rfl ?_
  refine g_iload_n (q := 6) dL_data_5 rfl rfl ?_
  refine g_iload_n (q := 7) dL_data_6 rfl rfl ?_
  refine g_callV (q := 10) dL_data_7 rfl kv_L_53 rfl hK hd2 ho hg rfl (bz_le rfl) (by decide) (by decide) (fun r g1 hQ => ?_)
  obtain ⟨v, rfl, hA, hQ⟩ := hQ
  have hB := bz_B.rf (bz_W.one hA)
  refine g_i2l (q := 11) dL_data_10 rfl ?_
  refine gb_lastN (q := 12) (j := 0) (i := 0) dL_data_11 rfl hB rfl rfl rfl (by omega) (by decide) (fun g hB => ?_)
  refine g_goto (q := 23) dL_data_12 (by decide) ?_
  refine g_iconst (q := 24) (v := (nI 0)) dL_data_23 rfl (by decide) ?_
  exact gh_iret dL_data_24 rfl (Nat.le_refl _) (by decide) (by decide) ⟨rfl, v, _, hQ, hB⟩
set_option maxRecDepth 20000 in
set_option maxHeartbeats 1000000 in
theorem hx_data_IOE {l : Launch} {E : bz_E} {L : List Nat} {g : Nat → va_E} {o a d2 : Nat} {v1 v2 v3 : Int32} {fs : List Value} (hd2 : d2 < 12) (ho : o ∈ L) (hg : g o = .inr (8, fs)) (hK : bz_KX l E mX8_data d2 [.ref o, .int v1, .int v2, .int v3] L g x_IOE) : bz_KH l E mL_data tL_data 12 [.ref o, .int v1, .int v2, .int v3, .ref a] L g (fun r g1 => r = some (.int (nI 1)) ∧ g1 = g) := by
  refine bz_KH.of (by decide) (bz_le rfl) (by decide +kernel) (fun sz => ?_)
  show bz_G _ _ _ _ _ _ _ _ _ _ _ _ 0 [(0, .ref o), (1, .int v1), (2, .int v2), (3, .int v3), (4, .ref a)] []
  refine g_aload (q := 2) dL_data_0 rfl rfl ?_
  refine g_iconst (q := 3) (v := (nI 0)) dL_data_2 rfl (by decide) ?_
  refine g_aload_n (q := 4) dL_data_3 rfl rfl ?_
  refine g_iload_n (q := 5) dL_data_4 rfl rfl ?_
  refine g_iload_n (q := 6) dL_data_5 rfl rfl ?_
  refine g_iload_n (q := 7) dL_data_6 rfl rfl ?_
  refine gh_catch (pre := []) (suf := [(0, 12, 19, 57)]) (a9 := 0) (b9 := 12) (h9 := 15) (ct := 19) dL_data_7 (by decide +kernel) (fun z h => by cases h) (by decide) (by decide) cl_IOE xs_IOE kv_L_53 hK rfl hd2 ho hg rfl (bz_le rfl) (fun z1 q9 hz1 => ?_)
  refine g_astore (q := 17) dL_data_15 rfl (by decide) rfl ?_
  refine g_iconst (q := 18) (v := (nI 1)) dL_data_17 rfl (by decide) ?_
  exact gh_iret dL_data_18 rfl hz1 (by decide) (by decide) ⟨rfl, rfl⟩
set_option maxRecDepth 20000 in
set_option maxHeartbeats 1000000 in
theorem hx_data_ISE {l : Launch} {E : bz_E} {L : List Nat} {g : Nat → va_E} {o a d2 : Nat} {v1 v2 v3 : Int32} {fs : List Value} (hd2 : d2 < 12) (ho : o ∈ L) (hg : g o = .inr (8, fs)) (hK : bz_KX l E mX8_data d2 [.ref o, .int v1, .int v2, .int v3] L g x_ISE) : bz_KH l E mL_data tL_data 12 [.ref o, .int v1, .int v2, .int v3, .ref a] L g (fun r g1 => r = some (.int (nI 2)) ∧ g1 = g) := by
  refine bz_KH.of (by decide) (bz_le rfl) (by decide +kernel) (fun sz => ?_)
  show bz_G _ _ _ _ _ _ _ _ _ _ _ _ 0 [(0, .ref o), (1, .int v1), (2, .int v2), (3, .int v3), (4, .ref a)] []
  refine g_aload (q := 2) dL_data_0 rfl rfl ?_
  refine g_iconst (q := 3) (v := (nI 0)) dL_data_2 rfl (by decide) ?_
  refine g_aload_n (q := 4) dL_data_3 rfl rfl ?_
  refine g_iload_n (q := 5) dL_data_4 rfl rfl ?_
  refine g_iload_n (q := 6) dL_data_5 rfl rfl ?_
  refine g_iload_n (q := 7) dL_data_6 rfl rfl ?_
  refine gh_catch (pre := [(0, 12, 15, 19)]) (suf := []) (a9 := 0) (b9 := 12) (h9 := 19) (ct := 57) dL_data_7 (by decide +kernel) (fun z h => by rw [List.mem_singleton.mp h]; exact ⟨by decide, x_IOE, cl_IOE, by decide +kernel⟩) (by decide) (by decide) cl_ISE xs_ISE kv_L_53 hK rfl hd2 ho hg rfl (bz_le rfl) (fun z1 q9 hz1 => ?_)
  refine g_astore (q := 21) dL_data_19 rfl (by decide) rfl ?_
  refine g_iconst (q := 22) (v := (nI 2)) dL_data_21 rfl (by decide) ?_
  exact gh_iret dL_data_22 rfl hz1 (by decide) (by decide) ⟨rfl, rfl⟩
set_option maxRecDepth 20000 in
set_option maxHeartbeats 1000000 in
theorem hl_forwarded {l : Launch} {E : bz_E} {L : List Nat} {g : Nat → va_E} {o a d2 : Nat} {v1 : Int32} {fs : List Value} {u : Nat → Int64} {Q : Int32 → (Nat → va_E) → Prop} (hd2 : d2 < 12) (ho : o ∈ L) (hg : g o = .inr (8, fs)) (hK : bz_K l E mX8_forwarded d2 [.ref o, .int v1] L g (fun r g1 => ∃ v : Int32, r = some (.int v) ∧ bz_H L g1 a [eJ E u] ∧ Q v g1)) : bz_KH l E mL_forwarded tL_forwarded 12 [.ref o, .int v1, .ref a] L g (fun r g1 => r = some (.int (nI 0)) ∧ ∃ (v : Int32) (g9 : Nat → va_E), Q v g9 ∧ bz_B L g9 g1 [(a, [eJ E (vp_updL u 0 v.toInt64)])]) := by
  refine bz_KH.of (by decide) (bz_le rfl) (by decide +kernel) (fun sz => ?_)
  show bz_G _ _ _ _ _ _ _ _ _ _ _ _ 0 [(0, .ref o), (1, .int v1), (2, .ref a)] []
  refine g_aload_n (q := 1) dL_forwarded_0 rfl rfl ?_
  refine g_iconst (q := 2) (v := (nI 0)) dL_forwarded_1 rfl (by decide) ?_
  refine g_aload_n (q := 3) dL_forwarded_2 rfl rfl ?_
  refine g_iload_n (q := 4) dL_forwarded_3 rfl rfl ?_
  refine g_callV (q := 7) dL_forwarded_4 rfl kv_L_59 rfl hK hd2 ho hg rfl (bz_le rfl) (by decide) (by decide) (fun r g1 hQ => ?_)
  obtain ⟨v, rfl, hA, hQ⟩ := hQ
  have hB := bz_B.rf (bz_W.one hA)
  refine g_i2l (q := 8) dL_forwarded_7 rfl ?_
  refine gb_lastN (q := 9) (j := 0) (i := 0) dL_forwarded_8 rfl hB rfl rfl rfl (by omega) (by decide) (fun g hB => ?_)
  refine g_goto (q := 15) dL_forwarded_9 (by decide) ?_
  refine g_iconst (q := 16) (v := (nI 0)) dL_forwarded_15 rfl (by decide) ?_
  exact gh_iret dL_forwarded_16 rfl (Nat.le_refl _) (by decide) (by decide) ⟨rfl, v, _, hQ, hB⟩
set_option maxRecDepth 20000 in
set_option maxHeartbeats 1000000 in
theorem hx_forwarded_IOE {l : Launch} {E : bz_E} {L : List Nat} {g : Nat → va_E} {o a d2 : Nat} {v1 : Int32} {fs : List Value} (hd2 : d2 < 12) (ho : o ∈ L) (hg : g o = .inr (8, fs)) (hK : bz_KX l E mX8_forwarded d2 [.ref o, .int v1] L g x_IOE) : bz_KH l E mL_forwarded tL_forwarded 12 [.ref o, .int v1, .ref a] L g (fun r g1 => r = some (.int (nI 1)) ∧ g1 = g) := by
  refine bz_KH.of (by decide) (bz_le rfl) (by decide +kernel) (fun sz => ?_)
  show bz_G _ _ _ _ _ _ _ _ _ _ _ _ 0 [(0, .ref o), (1, .int v1), (2, .ref a)] []
  refine g_aload_n (q := 1) dL_forwarded_0 rfl rfl ?_
  refine g_iconst (q := 2) (v := (nI 0)) dL_forwarded_1 rfl (by decide) ?_
  refine g_aload_n (q := 3) dL_forwarded_2 rfl rfl ?_
  refine g_iload_n (q := 4) dL_forwarded_3 rfl rfl ?_
  refine gh_catch (pre := []) (suf := []) (a9 := 0) (b9 := 9) (h9 := 12) (ct := 19) dL_forwarded_4 (by decide +kernel) (fun z h => by cases h) (by decide) (by decide) cl_IOE xs_IOE kv_L_59 hK rfl hd2 ho hg rfl (bz_le rfl) (fun z1 q9 hz1 => ?_)
  refine g_astore_n (q := 13) rfl dL_forwarded_12 rfl (by decide) rfl ?_
  refine g_iconst (q := 14) (v := (nI 1)) dL_forwarded_13 rfl (by decide) ?_
  exact gh_iret dL_forwarded_14 rfl hz1 (by decide) (by decide) ⟨rfl, rfl⟩
set_option maxRecDepth 20000 in
set_option maxHeartbeats 1000000 in
theorem hl_passings {l : Launch} {E : bz_E} {L : List Nat} {g : Nat → va_E} {o a d2 : Nat} {v1 : Int32} {fs : List Value} {u : Nat → Int64} {Q : Int32 → (Nat → va_E) → Prop} (hd2 : d2 < 12) (ho : o ∈ L) (hg : g o = .inr (8, fs)) (hK : bz_K l E mX8_passings d2 [.ref o, .int v1] L g (fun r g1 => ∃ v : Int32, r = some (.int v) ∧ bz_H L g1 a [eJ E u] ∧ Q v g1)) : bz_KH l E mL_passings tL_passings 12 [.ref o, .int v1, .ref a] L g (fun r g1 => r = some (.int (nI 0)) ∧ ∃ (v : Int32) (g9 : Nat → va_E), Q v g9 ∧ bz_B L g9 g1 [(a, [eJ E (vp_updL u 0 v.toInt64)])]) := by
  refine bz_KH.of (by decide) (bz_le rfl) (by decide +kernel) (fun sz => ?_)
  show bz_G _ _ _ _ _ _ _ _ _ _ _ _ 0 [(0, .ref o), (1, .int v1), (2, .ref a)] []
  refine g_aload_n (q := 1) dL_passings_0 rfl rfl ?_
  refine g_iconst (q := 2) (v := (nI 0)) dL_passings_1 rfl (by decide) ?_
  refine g_aload_n (q := 3) dL_passings_2 rfl rfl ?_
  refine g_iload_n (q := 4) dL_passings_3 rfl rfl ?_
  refine g_callV (q := 7) dL_passings_4 rfl kv_L_62 rfl hK hd2 ho hg rfl (bz_le rfl) (by decide) (by decide) (fun r g1 hQ => ?_)
  obtain ⟨v, rfl, hA, hQ⟩ := hQ
  have hB := bz_B.rf (bz_W.one hA)
  refine g_i2l (q := 8) dL_passings_7 rfl ?_
  refine gb_lastN (q := 9) (j := 0) (i := 0) dL_passings_8 rfl hB rfl rfl rfl (by omega) (by decide) (fun g hB => ?_)
  refine g_goto (q := 15) dL_passings_9 (by decide) ?_
  refine g_iconst (q := 16) (v := (nI 0)) dL_passings_15 rfl (by decide) ?_
  exact gh_iret dL_passings_16 rfl (Nat.le_refl _) (by decide) (by decide) ⟨rfl, v, _, hQ, hB⟩
set_option maxRecDepth 20000 in
set_option maxHeartbeats 1000000 in
theorem hx_passings_IOE {l : Launch} {E : bz_E} {L : List Nat} {g : Nat → va_E} {o a d2 : Nat} {v1 : Int32} {fs : List Value} (hd2 : d2 < 12) (ho : o ∈ L) (hg : g o = .inr (8, fs)) (hK : bz_KX l E mX8_passings d2 [.ref o, .int v1] L g x_IOE) : bz_KH l E mL_passings tL_passings 12 [.ref o, .int v1, .ref a] L g (fun r g1 => r = some (.int (nI 1)) ∧ g1 = g) := by
  refine bz_KH.of (by decide) (bz_le rfl) (by decide +kernel) (fun sz => ?_)
  show bz_G _ _ _ _ _ _ _ _ _ _ _ _ 0 [(0, .ref o), (1, .int v1), (2, .ref a)] []
  refine g_aload_n (q := 1) dL_passings_0 rfl rfl ?_
  refine g_iconst (q := 2) (v := (nI 0)) dL_passings_1 rfl (by decide) ?_
  refine g_aload_n (q := 3) dL_passings_2 rfl rfl ?_
  refine g_iload_n (q := 4) dL_passings_3 rfl rfl ?_
  refine gh_catch (pre := []) (suf := []) (a9 := 0) (b9 := 9) (h9 := 12) (ct := 19) dL_passings_4 (by decide +kernel) (fun z h => by cases h) (by decide) (by decide) cl_IOE xs_IOE kv_L_62 hK rfl hd2 ho hg rfl (bz_le rfl) (fun z1 q9 hz1 => ?_)
  refine g_astore_n (q := 13) rfl dL_passings_12 rfl (by decide) rfl ?_
  refine g_iconst (q := 14) (v := (nI 1)) dL_passings_13 rfl (by decide) ?_
  exact gh_iret dL_passings_14 rfl hz1 (by decide) (by decide) ⟨rfl, rfl⟩
set_option maxRecDepth 20000 in
set_option maxHeartbeats 1000000 in
theorem hl_utilisation {l : Launch} {E : bz_E} {L : List Nat} {g : Nat → va_E} {o a d2 : Nat} {v1 : Int32} {fs : List Value} {u : Nat → UInt64} {Q : UInt64 → (Nat → va_E) → Prop} (hd2 : d2 < 12) (ho : o ∈ L) (hg : g o = .inr (8, fs)) (hK : bz_K l E mX8_utilisation d2 [.ref o, .int v1] L g (fun r g1 => ∃ v : UInt64, r = some (.double v) ∧ bz_H L g1 a [eD E u] ∧ Q v g1)) : bz_KH l E mL_utilisation tL_utilisation 12 [.ref o, .int v1, .ref a] L g (fun r g1 => r = some (.int (nI 0)) ∧ ∃ (v : UInt64) (g9 : Nat → va_E), Q v g9 ∧ bz_B L g9 g1 [(a, [eD E (va_up u 0 v)])]) := by
  refine bz_KH.of (by decide) (bz_le rfl) (by decide +kernel) (fun sz => ?_)
  show bz_G _ _ _ _ _ _ _ _ _ _ _ _ 0 [(0, .ref o), (1, .int v1), (2, .ref a)] []
  refine g_aload_n (q := 1) dL_utilisation_0 rfl rfl ?_
  refine g_iconst (q := 2) (v := (nI 0)) dL_utilisation_1 rfl (by decide) ?_
  refine g_aload_n (q := 3) dL_utilisation_2 rfl rfl ?_
  refine g_iload_n (q := 4) dL_utilisation_3 rfl rfl ?_
  refine g_callV (q := 7) dL_utilisation_4 rfl kv_L_65 rfl hK hd2 ho hg rfl (bz_le rfl) (by decide) (by decide) (fun r g1 hQ => ?_)
  obtain ⟨v, rfl, hA, hQ⟩ := hQ
  have hB := bz_B.rf (bz_W.one hA)
  refine gb_dastN (q := 8) (j := 0) (i := 0) dL_utilisation_7 rfl hB rfl rfl rfl (by omega) (by decide) (fun g hB => ?_)
  refine g_goto (q := 14) dL_utilisation_8 (by decide) ?_
  refine g_iconst (q := 15) (v := (nI 0)) dL_utilisation_14 rfl (by decide) ?_
  exact gh_iret dL_utilisation_15 rfl (Nat.le_refl _) (by decide) (by decide) ⟨rfl, v, _, hQ, hB⟩
set_option maxRecDepth 20000 in
set_option maxHeartbeats 1000000 in
theorem hx_utilisation_IOE {l : Launch} {E : bz_E} {L : List Nat} {g : Nat → va_E} {o a d2 : Nat} {v1 : Int32} {fs : List Value} (hd2 : d2 < 12) (ho : o ∈ L) (hg : g o = .inr (8, fs)) (hK : bz_KX l E mX8_utilisation d2 [.ref o, .int v1] L g x_IOE) : bz_KH l E mL_utilisation tL_utilisation 12 [.ref o, .int v1, .ref a] L g (fun r g1 => r = some (.int (nI 1)) ∧ g1 = g) := by
  refine bz_KH.of (by decide) (bz_le rfl) (by decide +kernel) (fun sz => ?_)
  show bz_G _ _ _ _ _ _ _ _ _ _ _ _ 0 [(0, .ref o), (1, .int v1), (2, .ref a)] []
  refine g_aload_n (q := 1) dL_utilisation_0 rfl rfl ?_
  refine g_iconst (q := 2) (v := (nI 0)) dL_utilisation_1 rfl (by decide) ?_
  refine g_aload_n (q := 3) dL_utilisation_2 rfl rfl ?_
  refine g_iload_n (q := 4) dL_utilisation_3 rfl rfl ?_
  refine gh_catch (pre := []) (suf := []) (a9 := 0) (b9 := 8) (h9 := 11) (ct := 19) dL_utilisation_4 (by decide +kernel) (fun z h => by cases h) (by decide) (by decide) cl_IOE xs_IOE kv_L_65 hK rfl hd2 ho hg rfl (bz_le rfl) (fun z1 q9 hz1 => ?_)
  refine g_astore_n (q := 12) rfl dL_utilisation_11 rfl (by decide) rfl ?_
  refine g_iconst (q := 13) (v := (nI 1)) dL_utilisation_12 rfl (by decide) ?_
  exact gh_iret dL_utilisation_13 rfl hz1 (by decide) (by decide) ⟨rfl, rfl⟩
set_option maxRecDepth 20000 in
set_option maxHeartbeats 1000000 in
theorem hl_averageWait {l : Launch} {E : bz_E} {L : List Nat} {g : Nat → va_E} {o a d2 : Nat} {v1 : Int32} {fs : List Value} {u : Nat → UInt64} {Q : UInt32 → (Nat → va_E) → Prop} (hd2 : d2 < 12) (ho : o ∈ L) (hg : g o = .inr (8, fs)) (hK : bz_K l E mX8_averageWait d2 [.ref o, .int v1] L g (fun r g1 => ∃ v : UInt32, r = some (.float v) ∧ vf_n64 (FP.f2d v) ∧ bz_H L g1 a [eD E u] ∧ Q v g1)) : bz_KH l E mL_averageWait tL_averageWait 12 [.ref o, .int v1, .ref a] L g (fun r g1 => r = some (.int (nI 0)) ∧ ∃ (v : UInt32) (g9 : Nat → va_E), Q v g9 ∧ bz_B L g9 g1 [(a, [eD E (va_up u 0 (FP.f2d v))])]) := by
  refine bz_KH.of (by decide) (bz_le rfl) (by decide +kernel) (fun sz => ?_)
  show bz_G _ _ _ _ _ _ _ _ _ _ _ _ 0 [(0, .ref o), (1, .int v1), (2, .ref a)] []
  refine g_aload_n (q := 1) dL_averageWait_0 rfl rfl ?_
  refine g_iconst (q := 2) (v := (nI 0)) dL_averageWait_1 rfl (by decide) ?_
  refine g_aload_n (q := 3) dL_averageWait_2 rfl rfl ?_
  refine g_iload_n (q := 4) dL_averageWait_3 rfl rfl ?_
  refine g_callV (q := 7) dL_averageWait_4 rfl kv_L_69 rfl hK hd2 ho hg rfl (bz_le rfl) (by decide) (by decide) (fun r g1 hQ => ?_)
  obtain ⟨v, rfl, hnn, hA, hQ⟩ := hQ
  have hB := bz_B.rf (bz_W.one hA)
  refine g_f2d (q := 8) dL_averageWait_7 rfl hnn ?_
  refine gb_dastN (q := 9) (j := 0) (i := 0) dL_averageWait_8 rfl hB rfl rfl rfl (by omega) (by decide) (fun g hB => ?_)
  refine g_goto (q := 15) dL_averageWait_9 (by decide) ?_
  refine g_iconst (q := 16) (v := (nI 0)) dL_averageWait_15 rfl (by decide) ?_
  exact gh_iret dL_averageWait_16 rfl (Nat.le_refl _) (by decide) (by decide) ⟨rfl, v, _, hQ, hB⟩
set_option maxRecDepth 20000 in
set_option maxHeartbeats 1000000 in
theorem hx_averageWait_IOE {l : Launch} {E : bz_E} {L : List Nat} {g : Nat → va_E} {o a d2 : Nat} {v1 : Int32} {fs : List Value} (hd2 : d2 < 12) (ho : o ∈ L) (hg : g o = .inr (8, fs)) (hK : bz_KX l E mX8_averageWait d2 [.ref o, .int v1] L g x_IOE) : bz_KH l E mL_averageWait tL_averageWait 12 [.ref o, .int v1, .ref a] L g (fun r g1 => r = some (.int (nI 1)) ∧ g1 = g) := by
  refine bz_KH.of (by decide) (bz_le rfl) (by decide +kernel) (fun sz => ?_)
  show bz_G _ _ _ _ _ _ _ _ _ _ _ _ 0 [(0, .ref o), (1, .int v1), (2, .ref a)] []
  refine g_aload_n (q := 1) dL_averageWait_0 rfl rfl ?_
  refine g_iconst (q := 2) (v := (nI 0)) dL_averageWait_1 rfl (by decide) ?_
  refine g_aload_n (q := 3) dL_averageWait_2 rfl rfl ?_
  refine g_iload_n (q := 4) dL_averageWait_3 rfl rfl ?_
  refine gh_catch (pre := []) (suf := []) (a9 := 0) (b9 := 9) (h9 := 12) (ct := 19) dL_averageWait_4 (by decide +kernel) (fun z h => by cases h) (by decide) (by decide) cl_IOE xs_IOE kv_L_69 hK rfl hd2 ho hg rfl (bz_le rfl) (fun z1 q9 hz1 => ?_)
  refine g_astore_n (q := 13) rfl dL_averageWait_12 rfl (by decide) rfl ?_
  refine g_iconst (q := 14) (v := (nI 1)) dL_averageWait_13 rfl (by decide) ?_
  exact gh_iret dL_averageWait_14 rfl hz1 (by decide) (by decide) ⟨rfl, rfl⟩
set_option maxRecDepth 20000 in
set_option maxHeartbeats 1000000 in
theorem hl_completeTick {l : Launch} {E : bz_E} {L : List Nat} {g : Nat → va_E} {o a d2 : Nat} {v1 v2 : Int32} {fs : List Value} {u : Nat → Int64} {Q : Int32 → (Nat → va_E) → Prop} (hd2 : d2 < 12) (ho : o ∈ L) (hg : g o = .inr (8, fs)) (hK : bz_K l E mX8_completeTick d2 [.ref o, .int v1, .int v2] L g (fun r g1 => ∃ v : Int32, r = some (.int v) ∧ bz_H L g1 a [eJ E u] ∧ Q v g1)) : bz_KH l E mL_completeTick tL_completeTick 12 [.ref o, .int v1, .int v2, .ref a] L g (fun r g1 => r = some (.int (nI 0)) ∧ ∃ (v : Int32) (g9 : Nat → va_E), Q v g9 ∧ bz_B L g9 g1 [(a, [eJ E (vp_updL u 0 v.toInt64)])]) := by
  refine bz_KH.of (by decide) (bz_le rfl) (by decide +kernel) (fun sz => ?_)
  show bz_G _ _ _ _ _ _ _ _ _ _ _ _ 0 [(0, .ref o), (1, .int v1), (2, .int v2), (3, .ref a)] []
  refine g_aload_n (q := 1) dL_completeTick_0 rfl rfl ?_
  refine g_iconst (q := 2) (v := (nI 0)) dL_completeTick_1 rfl (by decide) ?_
  refine g_aload_n (q := 3) dL_completeTick_2 rfl rfl ?_
  refine g_iload_n (q := 4) dL_completeTick_3 rfl rfl ?_
  refine g_iload_n (q := 5) dL_completeTick_4 rfl rfl ?_
  refine g_callV (q := 8) dL_completeTick_5 rfl kv_L_73 rfl hK hd2 ho hg rfl (bz_le rfl) (by decide) (by decide) (fun r g1 hQ => ?_)
  obtain ⟨v, rfl, hA, hQ⟩ := hQ
  have hB := bz_B.rf (bz_W.one hA)
  refine g_i2l (q := 9) dL_completeTick_8 rfl ?_
  refine gb_lastN (q := 10) (j := 0) (i := 0) dL_completeTick_9 rfl hB rfl rfl rfl (by omega) (by decide) (fun g hB => ?_)
  refine g_goto (q := 17) dL_completeTick_10 (by decide) ?_
  refine g_iconst (q := 18) (v := (nI 0)) dL_completeTick_17 rfl (by decide) ?_
  exact gh_iret dL_completeTick_18 rfl (Nat.le_refl _) (by decide) (by decide) ⟨rfl, v, _, hQ, hB⟩
set_option maxRecDepth 20000 in
set_option maxHeartbeats 1000000 in
theorem hx_completeTick_IOE {l : Launch} {E : bz_E} {L : List Nat} {g : Nat → va_E} {o a d2 : Nat} {v1 v2 : Int32} {fs : List Value} (hd2 : d2 < 12) (ho : o ∈ L) (hg : g o = .inr (8, fs)) (hK : bz_KX l E mX8_completeTick d2 [.ref o, .int v1, .int v2] L g x_IOE) : bz_KH l E mL_completeTick tL_completeTick 12 [.ref o, .int v1, .int v2, .ref a] L g (fun r g1 => r = some (.int (nI 1)) ∧ g1 = g) := by
  refine bz_KH.of (by decide) (bz_le rfl) (by decide +kernel) (fun sz => ?_)
  show bz_G _ _ _ _ _ _ _ _ _ _ _ _ 0 [(0, .ref o), (1, .int v1), (2, .int v2), (3, .ref a)] []
  refine g_aload_n (q := 1) dL_completeTick_0 rfl rfl ?_
  refine g_iconst (q := 2) (v := (nI 0)) dL_completeTick_1 rfl (by decide) ?_
  refine g_aload_n (q := 3) dL_completeTick_2 rfl rfl ?_
  refine g_iload_n (q := 4) dL_completeTick_3 rfl rfl ?_
  refine g_iload_n (q := 5) dL_completeTick_4 rfl rfl ?_
  refine gh_catch (pre := []) (suf := []) (a9 := 0) (b9 := 10) (h9 := 13) (ct := 19) dL_completeTick_5 (by decide +kernel) (fun z h => by cases h) (by decide) (by decide) cl_IOE xs_IOE kv_L_73 hK rfl hd2 ho hg rfl (bz_le rfl) (fun z1 q9 hz1 => ?_)
  refine g_astore (q := 15) dL_completeTick_13 rfl (by decide) rfl ?_
  refine g_iconst (q := 16) (v := (nI 1)) dL_completeTick_15 rfl (by decide) ?_
  exact gh_iret dL_completeTick_16 rfl hz1 (by decide) (by decide) ⟨rfl, rfl⟩
set_option maxRecDepth 20000 in
set_option maxHeartbeats 1000000 in
theorem hl_run {l : Launch} {E : bz_E} {L : List Nat} {g : Nat → va_E} {o a d2 : Nat} {v1 : Int32} {fs : List Value} {u : Nat → Int64} {Q : Int32 → (Nat → va_E) → Prop} (hd2 : d2 < 12) (ho : o ∈ L) (hg : g o = .inr (8, fs)) (hK : bz_K l E mX8_run d2 [.ref o, .int v1] L g (fun r g1 => ∃ v : Int32, r = some (.int v) ∧ bz_H L g1 a [eJ E u] ∧ Q v g1)) : bz_KH l E mL_run tL_run 12 [.ref o, .int v1, .ref a] L g (fun r g1 => r = some (.int (nI 0)) ∧ ∃ (v : Int32) (g9 : Nat → va_E), Q v g9 ∧ bz_B L g9 g1 [(a, [eJ E (vp_updL u 0 v.toInt64)])]) := by
  refine bz_KH.of (by decide) (bz_le rfl) (by decide +kernel) (fun sz => ?_)
  show bz_G _ _ _ _ _ _ _ _ _ _ _ _ 0 [(0, .ref o), (1, .int v1), (2, .ref a)] []
  refine g_aload_n (q := 1) dL_run_0 rfl rfl ?_
  refine g_iconst (q := 2) (v := (nI 0)) dL_run_1 rfl (by decide) ?_
  refine g_aload_n (q := 3) dL_run_2 rfl rfl ?_
  refine g_iload_n (q := 4) dL_run_3 rfl rfl ?_
  refine g_callV (q := 7) dL_run_4 rfl kv_L_76 rfl hK hd2 ho hg rfl (bz_le rfl) (by decide) (by decide) (fun r g1 hQ => ?_)
  obtain ⟨v, rfl, hA, hQ⟩ := hQ
  have hB := bz_B.rf (bz_W.one hA)
  refine g_i2l (q := 8) dL_run_7 rfl ?_
  refine gb_lastN (q := 9) (j := 0) (i := 0) dL_run_8 rfl hB rfl rfl rfl (by omega) (by decide) (fun g hB => ?_)
  refine g_goto (q := 18) dL_run_9 (by decide) ?_
  refine g_iconst (q := 19) (v := (nI 0)) dL_run_18 rfl (by decide) ?_
  exact gh_iret dL_run_19 rfl (Nat.le_refl _) (by decide) (by decide) ⟨rfl, v, _, hQ, hB⟩
set_option maxRecDepth 20000 in
set_option maxHeartbeats 1000000 in
theorem hx_run_IAE {l : Launch} {E : bz_E} {L : List Nat} {g : Nat → va_E} {o a d2 : Nat} {v1 : Int32} {fs : List Value} (hd2 : d2 < 12) (ho : o ∈ L) (hg : g o = .inr (8, fs)) (hK : bz_KX l E mX8_run d2 [.ref o, .int v1] L g x_IAE) : bz_KH l E mL_run tL_run 12 [.ref o, .int v1, .ref a] L g (fun r g1 => r = some (.int (nI 1)) ∧ g1 = g) := by
  refine bz_KH.of (by decide) (bz_le rfl) (by decide +kernel) (fun sz => ?_)
  show bz_G _ _ _ _ _ _ _ _ _ _ _ _ 0 [(0, .ref o), (1, .int v1), (2, .ref a)] []
  refine g_aload_n (q := 1) dL_run_0 rfl rfl ?_
  refine g_iconst (q := 2) (v := (nI 0)) dL_run_1 rfl (by decide) ?_
  refine g_aload_n (q := 3) dL_run_2 rfl rfl ?_
  refine g_iload_n (q := 4) dL_run_3 rfl rfl ?_
  refine gh_catch (pre := []) (suf := [(0, 9, 15, 57)]) (a9 := 0) (b9 := 9) (h9 := 12) (ct := 13) dL_run_4 (by decide +kernel) (fun z h => by cases h) (by decide) (by decide) cl_IAE xs_IAE kv_L_76 hK rfl hd2 ho hg rfl (bz_le rfl) (fun z1 q9 hz1 => ?_)
  refine g_astore_n (q := 13) rfl dL_run_12 rfl (by decide) rfl ?_
  refine g_iconst (q := 14) (v := (nI 1)) dL_run_13 rfl (by decide) ?_
  exact gh_iret dL_run_14 rfl hz1 (by decide) (by decide) ⟨rfl, rfl⟩
set_option maxRecDepth 20000 in
set_option maxHeartbeats 1000000 in
theorem hx_run_ISE {l : Launch} {E : bz_E} {L : List Nat} {g : Nat → va_E} {o a d2 : Nat} {v1 : Int32} {fs : List Value} (hd2 : d2 < 12) (ho : o ∈ L) (hg : g o = .inr (8, fs)) (hK : bz_KX l E mX8_run d2 [.ref o, .int v1] L g x_ISE) : bz_KH l E mL_run tL_run 12 [.ref o, .int v1, .ref a] L g (fun r g1 => r = some (.int (nI 2)) ∧ g1 = g) := by
  refine bz_KH.of (by decide) (bz_le rfl) (by decide +kernel) (fun sz => ?_)
  show bz_G _ _ _ _ _ _ _ _ _ _ _ _ 0 [(0, .ref o), (1, .int v1), (2, .ref a)] []
  refine g_aload_n (q := 1) dL_run_0 rfl rfl ?_
  refine g_iconst (q := 2) (v := (nI 0)) dL_run_1 rfl (by decide) ?_
  refine g_aload_n (q := 3) dL_run_2 rfl rfl ?_
  refine g_iload_n (q := 4) dL_run_3 rfl rfl ?_
  refine gh_catch (pre := [(0, 9, 12, 13)]) (suf := []) (a9 := 0) (b9 := 9) (h9 := 15) (ct := 57) dL_run_4 (by decide +kernel) (fun z h => by rw [List.mem_singleton.mp h]; exact ⟨by decide, x_IAE, cl_IAE, by decide +kernel⟩) (by decide) (by decide) cl_ISE xs_ISE kv_L_76 hK rfl hd2 ho hg rfl (bz_le rfl) (fun z1 q9 hz1 => ?_)
  refine g_astore_n (q := 16) rfl dL_run_15 rfl (by decide) rfl ?_
  refine g_iconst (q := 17) (v := (nI 2)) dL_run_16 rfl (by decide) ?_
  exact gh_iret dL_run_17 rfl hz1 (by decide) (by decide) ⟨rfl, rfl⟩
set_option maxRecDepth 20000 in
set_option maxHeartbeats 1000000 in
theorem hl_post {l : Launch} {E : bz_E} {L : List Nat} {g : Nat → va_E} {o a d2 : Nat} {v1 v2 v3 v4 v5 : Int32} {fs : List Value} {u : Nat → Int64} {Q : Int32 → (Nat → va_E) → Prop} (hd2 : d2 < 12) (ho : o ∈ L) (hg : g o = .inr (8, fs)) (hK : bz_K l E mX8_post d2 [.ref o, .int v1, .int v2, .int v3, .int v4, .int v5] L g (fun r g1 => ∃ v : Int32, r = some (.int v) ∧ bz_H L g1 a [eJ E u] ∧ Q v g1)) : bz_KH l E mL_post tL_post 12 [.ref o, .int v1, .int v2, .int v3, .int v4, .int v5, .ref a] L g (fun r g1 => r = some (.int (nI 0)) ∧ ∃ (v : Int32) (g9 : Nat → va_E), Q v g9 ∧ bz_B L g9 g1 [(a, [eJ E (vp_updL u 0 v.toInt64)])]) := by
  refine bz_KH.of (by decide) (bz_le rfl) (by decide +kernel) (fun sz => ?_)
  show bz_G _ _ _ _ _ _ _ _ _ _ _ _ 0 [(0, .ref o), (1, .int v1), (2, .int v2), (3, .int v3), (4, .int v4), (5, .int v5), (6, .ref a)] []
  refine g_aload (q := 2) dL_post_0 rfl rfl ?_
  refine g_iconst (q := 3) (v := (nI 0)) dL_post_2 rfl (by decide) ?_
  refine g_aload_n (q := 4) dL_post_3 rfl rfl ?_
  refine g_iload_n (q := 5) dL_post_4 rfl rfl ?_
  refine g_iload_n (q := 6) dL_post_5 rfl rfl ?_
  refine g_iload_n (q := 7) dL_post_6 rfl rfl ?_
  refine g_iload (q := 9) dL_post_7 rfl rfl ?_
  refine g_iload (q := 11) dL_post_9 rfl rfl ?_
  refine g_callV (q := 14) dL_post_11 rfl kv_L_79 rfl hK hd2 ho hg rfl (bz_le rfl) (by decide) (by decide) (fun r g1 hQ => ?_)
  obtain ⟨v, rfl, hA, hQ⟩ := hQ
  have hB := bz_B.rf (bz_W.one hA)
  refine g_i2l (q := 15) dL_post_14 rfl ?_
  refine gb_lastN (q := 16) (j := 0) (i := 0) dL_post_15 rfl hB rfl rfl rfl (by omega) (by decide) (fun g hB => ?_)
  refine g_goto (q := 31) dL_post_16 (by decide) ?_
  refine g_iconst (q := 32) (v := (nI 0)) dL_post_31 rfl (by decide) ?_
  exact gh_iret dL_post_32 rfl (Nat.le_refl _) (by decide) (by decide) ⟨rfl, v, _, hQ, hB⟩
set_option maxRecDepth 20000 in
set_option maxHeartbeats 1000000 in
theorem hx_post_IOE {l : Launch} {E : bz_E} {L : List Nat} {g : Nat → va_E} {o a d2 : Nat} {v1 v2 v3 v4 v5 : Int32} {fs : List Value} (hd2 : d2 < 12) (ho : o ∈ L) (hg : g o = .inr (8, fs)) (hK : bz_KX l E mX8_post d2 [.ref o, .int v1, .int v2, .int v3, .int v4, .int v5] L g x_IOE) : bz_KH l E mL_post tL_post 12 [.ref o, .int v1, .int v2, .int v3, .int v4, .int v5, .ref a] L g (fun r g1 => r = some (.int (nI 1)) ∧ g1 = g) := by
  refine bz_KH.of (by decide) (bz_le rfl) (by decide +kernel) (fun sz => ?_)
  show bz_G _ _ _ _ _ _ _ _ _ _ _ _ 0 [(0, .ref o), (1, .int v1), (2, .int v2), (3, .int v3), (4, .int v4), (5, .int v5), (6, .ref a)] []
  refine g_aload (q := 2) dL_post_0 rfl rfl ?_
  refine g_iconst (q := 3) (v := (nI 0)) dL_post_2 rfl (by decide) ?_
  refine g_aload_n (q := 4) dL_post_3 rfl rfl ?_
  refine g_iload_n (q := 5) dL_post_4 rfl rfl ?_
  refine g_iload_n (q := 6) dL_post_5 rfl rfl ?_
  refine g_iload_n (q := 7) dL_post_6 rfl rfl ?_
  refine g_iload (q := 9) dL_post_7 rfl rfl ?_
  refine g_iload (q := 11) dL_post_9 rfl rfl ?_
  refine gh_catch (pre := []) (suf := [(0, 16, 23, 13), (0, 16, 27, 57)]) (a9 := 0) (b9 := 16) (h9 := 19) (ct := 19) dL_post_11 (by decide +kernel) (fun z h => by cases h) (by decide) (by decide) cl_IOE xs_IOE kv_L_79 hK rfl hd2 ho hg rfl (bz_le rfl) (fun z1 q9 hz1 => ?_)
  refine g_astore (q := 21) dL_post_19 rfl (by decide) rfl ?_
  refine g_iconst (q := 22) (v := (nI 1)) dL_post_21 rfl (by decide) ?_
  exact gh_iret dL_post_22 rfl hz1 (by decide) (by decide) ⟨rfl, rfl⟩
set_option maxRecDepth 20000 in
set_option maxHeartbeats 1000000 in
theorem hx_post_IAE {l : Launch} {E : bz_E} {L : List Nat} {g : Nat → va_E} {o a d2 : Nat} {v1 v2 v3 v4 v5 : Int32} {fs : List Value} (hd2 : d2 < 12) (ho : o ∈ L) (hg : g o = .inr (8, fs)) (hK : bz_KX l E mX8_post d2 [.ref o, .int v1, .int v2, .int v3, .int v4, .int v5] L g x_IAE) : bz_KH l E mL_post tL_post 12 [.ref o, .int v1, .int v2, .int v3, .int v4, .int v5, .ref a] L g (fun r g1 => r = some (.int (nI 2)) ∧ g1 = g) := by
  refine bz_KH.of (by decide) (bz_le rfl) (by decide +kernel) (fun sz => ?_)
  show bz_G _ _ _ _ _ _ _ _ _ _ _ _ 0 [(0, .ref o), (1, .int v1), (2, .int v2), (3, .int v3), (4, .int v4), (5, .int v5), (6, .ref a)] []
  refine g_aload (q := 2) dL_post_0 rfl rfl ?_
  refine g_iconst (q := 3) (v := (nI 0)) dL_post_2 rfl (by decide) ?_
  refine g_aload_n (q := 4) dL_post_3 rfl rfl ?_
  refine g_iload_n (q := 5) dL_post_4 rfl rfl ?_
  refine g_iload_n (q := 6) dL_post_5 rfl rfl ?_
  refine g_iload_n (q := 7) dL_post_6 rfl rfl ?_
  refine g_iload (q := 9) dL_post_7 rfl rfl ?_
  refine g_iload (q := 11) dL_post_9 rfl rfl ?_
  refine gh_catch (pre := [(0, 16, 19, 19)]) (suf := [(0, 16, 27, 57)]) (a9 := 0) (b9 := 16) (h9 := 23) (ct := 13) dL_post_11 (by decide +kernel) (fun z h => by rw [List.mem_singleton.mp h]; exact ⟨by decide, x_IOE, cl_IOE, by decide +kernel⟩) (by decide) (by decide) cl_IAE xs_IAE kv_L_79 hK rfl hd2 ho hg rfl (bz_le rfl) (fun z1 q9 hz1 => ?_)
  refine g_astore (q := 25) dL_post_23 rfl (by decide) rfl ?_
  refine g_iconst (q := 26) (v := (nI 2)) dL_post_25 rfl (by decide) ?_
  exact gh_iret dL_post_26 rfl hz1 (by decide) (by decide) ⟨rfl, rfl⟩
set_option maxRecDepth 20000 in
set_option maxHeartbeats 1000000 in
theorem hx_post_ISE {l : Launch} {E : bz_E} {L : List Nat} {g : Nat → va_E} {o a d2 : Nat} {v1 v2 v3 v4 v5 : Int32} {fs : List Value} (hd2 : d2 < 12) (ho : o ∈ L) (hg : g o = .inr (8, fs)) (hK : bz_KX l E mX8_post d2 [.ref o, .int v1, .int v2, .int v3, .int v4, .int v5] L g x_ISE) : bz_KH l E mL_post tL_post 12 [.ref o, .int v1, .int v2, .int v3, .int v4, .int v5, .ref a] L g (fun r g1 => r = some (.int (nI 3)) ∧ g1 = g) := by
  refine bz_KH.of (by decide) (bz_le rfl) (by decide +kernel) (fun sz => ?_)
  show bz_G _ _ _ _ _ _ _ _ _ _ _ _ 0 [(0, .ref o), (1, .int v1), (2, .int v2), (3, .int v3), (4, .int v4), (5, .int v5), (6, .ref a)] []
  refine g_aload (q := 2) dL_post_0 rfl rfl ?_
  refine g_iconst (q := 3) (v := (nI 0)) dL_post_2 rfl (by decide) ?_
  refine g_aload_n (q := 4) dL_post_3 rfl rfl ?_
  refine g_iload_n (q := 5) dL_post_4 rfl rfl ?_
  refine g_iload_n (q := 6) dL_post_5 rfl rfl ?_
  refine g_iload_n (q := 7) dL_post_6 rfl rfl ?_
  refine g_iload (q := 9) dL_post_7 rfl rfl ?_
  refine g_iload (q := 11) dL_post_9 rfl rfl ?_
  refine gh_catch (pre := [(0, 16, 19, 19), (0, 16, 23, 13)]) (suf := []) (a9 := 0) (b9 := 16) (h9 := 27) (ct := 57) dL_post_11 (by decide +kernel) (fun z h => (List.mem_cons.mp h).elim (fun e => by rw [e]; exact ⟨by decide, x_IOE, cl_IOE, by decide +kernel⟩) (fun h => by rw [List.mem_singleton.mp h]; exact ⟨by decide, x_IAE, cl_IAE, by decide +kernel⟩)) (by decide) (by decide) cl_ISE xs_ISE kv_L_79 hK rfl hd2 ho hg rfl (bz_le rfl) (fun z1 q9 hz1 => ?_)
  refine g_astore (q := 29) dL_post_27 rfl (by decide) rfl ?_
  refine g_iconst (q := 30) (v := (nI 3)) dL_post_29 rfl (by decide) ?_
  exact gh_iret dL_post_30 rfl hz1 (by decide) (by decide) ⟨rfl, rfl⟩
set_option maxRecDepth 20000 in
set_option maxHeartbeats 1000000 in
theorem hl_read {l : Launch} {E : bz_E} {L : List Nat} {g : Nat → va_E} {o a d2 : Nat} {v1 v2 v3 v4 : Int32} {fs : List Value} {u : Nat → Int64} {Q : Int32 → (Nat → va_E) → Prop} (hd2 : d2 < 12) (ho : o ∈ L) (hg : g o = .inr (8, fs)) (hK : bz_K l E mX8_read d2 [.ref o, .int v1, .int v2, .int v3, .int v4] L g (fun r g1 => ∃ v : Int32, r = some (.int v) ∧ bz_H L g1 a [eJ E u] ∧ Q v g1)) : bz_KH l E mL_read tL_read 12 [.ref o, .int v1, .int v2, .int v3, .int v4, .ref a] L g (fun r g1 => r = some (.int (nI 0)) ∧ ∃ (v : Int32) (g9 : Nat → va_E), Q v g9 ∧ bz_B L g9 g1 [(a, [eJ E (vp_updL u 0 v.toInt64)])]) := by
  refine bz_KH.of (by decide) (bz_le rfl) (by decide +kernel) (fun sz => ?_)
  show bz_G _ _ _ _ _ _ _ _ _ _ _ _ 0 [(0, .ref o), (1, .int v1), (2, .int v2), (3, .int v3), (4, .int v4), (5, .ref a)] []
  refine g_aload (q := 2) dL_read_0 rfl rfl ?_
  refine g_iconst (q := 3) (v := (nI 0)) dL_read_2 rfl (by decide) ?_
  refine g_aload_n (q := 4) dL_read_3 rfl rfl ?_
  refine g_iload_n (q := 5) dL_read_4 rfl rfl ?_
  refine g_iload_n (q := 6) dL_read_5 rfl rfl ?_
  refine g_iload_n (q := 7) dL_read_6 rfl rfl ?_
  refine g_iload (q := 9) dL_read_7 rfl rfl ?_
  refine g_callV (q := 12) dL_read_9 rfl kv_L_83 rfl hK hd2 ho hg rfl (bz_le rfl) (by decide) (by decide) (fun r g1 hQ => ?_)
  obtain ⟨v, rfl, hA, hQ⟩ := hQ
  have hB := bz_B.rf (bz_W.one hA)
  refine g_i2l (q := 13) dL_read_12 rfl ?_
  refine gb_lastN (q := 14) (j := 0) (i := 0) dL_read_13 rfl hB rfl rfl rfl (by omega) (by decide) (fun g hB => ?_)
  refine g_goto (q := 29) dL_read_14 (by decide) ?_
  refine g_iconst (q := 30) (v := (nI 0)) dL_read_29 rfl (by decide) ?_
  exact gh_iret dL_read_30 rfl (Nat.le_refl _) (by decide) (by decide) ⟨rfl, v, _, hQ, hB⟩
set_option maxRecDepth 20000 in
set_option maxHeartbeats 1000000 in
theorem hx_read_IOE {l : Launch} {E : bz_E} {L : List Nat} {g : Nat → va_E} {o a d2 : Nat} {v1 v2 v3 v4 : Int32} {fs : List Value} (hd2 : d2 < 12) (ho : o ∈ L) (hg : g o = .inr (8, fs)) (hK : bz_KX l E mX8_read d2 [.ref o, .int v1, .int v2, .int v3, .int v4] L g x_IOE) : bz_KH l E mL_read tL_read 12 [.ref o, .int v1, .int v2, .int v3, .int v4, .ref a] L g (fun r g1 => r = some (.int (nI 1)) ∧ g1 = g) := by
  refine bz_KH.of (by decide) (bz_le rfl) (by decide +kernel) (fun sz => ?_)
  show bz_G _ _ _ _ _ _ _ _ _ _ _ _ 0 [(0, .ref o), (1, .int v1), (2, .int v2), (3, .int v3), (4, .int v4), (5, .ref a)] []
  refine g_aload (q := 2) dL_read_0 rfl rfl ?_
  refine g_iconst (q := 3) (v := (nI 0)) dL_read_2 rfl (by decide) ?_
  refine g_aload_n (q := 4) dL_read_3 rfl rfl ?_
  refine g_iload_n (q := 5) dL_read_4 rfl rfl ?_
  refine g_iload_n (q := 6) dL_read_5 rfl rfl ?_
  refine g_iload_n (q := 7) dL_read_6 rfl rfl ?_
  refine g_iload (q := 9) dL_read_7 rfl rfl ?_
  refine gh_catch (pre := []) (suf := [(0, 14, 21, 13), (0, 14, 25, 57)]) (a9 := 0) (b9 := 14) (h9 := 17) (ct := 19) dL_read_9 (by decide +kernel) (fun z h => by cases h) (by decide) (by decide) cl_IOE xs_IOE kv_L_83 hK rfl hd2 ho hg rfl (bz_le rfl) (fun z1 q9 hz1 => ?_)
  refine g_astore (q := 19) dL_read_17 rfl (by decide) rfl ?_
  refine g_iconst (q := 20) (v := (nI 1)) dL_read_19 rfl (by decide) ?_
  exact gh_iret dL_read_20 rfl hz1 (by decide) (by decide) ⟨rfl, rfl⟩
set_option maxRecDepth 20000 in
set_option maxHeartbeats 1000000 in
theorem hx_read_IAE {l : Launch} {E : bz_E} {L : List Nat} {g : Nat → va_E} {o a d2 : Nat} {v1 v2 v3 v4 : Int32} {fs : List Value} (hd2 : d2 < 12) (ho : o ∈ L) (hg : g o = .inr (8, fs)) (hK : bz_KX l E mX8_read d2 [.ref o, .int v1, .int v2, .int v3, .int v4] L g x_IAE) : bz_KH l E mL_read tL_read 12 [.ref o, .int v1, .int v2, .int v3, .int v4, .ref a] L g (fun r g1 => r = some (.int (nI 2)) ∧ g1 = g) := by
  refine bz_KH.of (by decide) (bz_le rfl) (by decide +kernel) (fun sz => ?_)
  show bz_G _ _ _ _ _ _ _ _ _ _ _ _ 0 [(0, .ref o), (1, .int v1), (2, .int v2), (3, .int v3), (4, .int v4), (5, .ref a)] []
  refine g_aload (q := 2) dL_read_0 rfl rfl ?_
  refine g_iconst (q := 3) (v := (nI 0)) dL_read_2 rfl (by decide) ?_
  refine g_aload_n (q := 4) dL_read_3 rfl rfl ?_
  refine g_iload_n (q := 5) dL_read_4 rfl rfl ?_
  refine g_iload_n (q := 6) dL_read_5 rfl rfl ?_
  refine g_iload_n (q := 7) dL_read_6 rfl rfl ?_
  refine g_iload (q := 9) dL_read_7 rfl rfl ?_
  refine gh_catch (pre := [(0, 14, 17, 19)]) (suf := [(0, 14, 25, 57)]) (a9 := 0) (b9 := 14) (h9 := 21) (ct := 13) dL_read_9 (by decide +kernel) (fun z h => by rw [List.mem_singleton.mp h]; exact ⟨by decide, x_IOE, cl_IOE, by decide +kernel⟩) (by decide) (by decide) cl_IAE xs_IAE kv_L_83 hK rfl hd2 ho hg rfl (bz_le rfl) (fun z1 q9 hz1 => ?_)
  refine g_astore (q := 23) dL_read_21 rfl (by decide) rfl ?_
  refine g_iconst (q := 24) (v := (nI 2)) dL_read_23 rfl (by decide) ?_
  exact gh_iret dL_read_24 rfl hz1 (by decide) (by decide) ⟨rfl, rfl⟩
set_option maxRecDepth 20000 in
set_option maxHeartbeats 1000000 in
theorem hx_read_ISE {l : Launch} {E : bz_E} {L : List Nat} {g : Nat → va_E} {o a d2 : Nat} {v1 v2 v3 v4 : Int32} {fs : List Value} (hd2 : d2 < 12) (ho : o ∈ L) (hg : g o = .inr (8, fs)) (hK : bz_KX l E mX8_read d2 [.ref o, .int v1, .int v2, .int v3, .int v4] L g x_ISE) : bz_KH l E mL_read tL_read 12 [.ref o, .int v1, .int v2, .int v3, .int v4, .ref a] L g (fun r g1 => r = some (.int (nI 3)) ∧ g1 = g) := by
  refine bz_KH.of (by decide) (bz_le rfl) (by decide +kernel) (fun sz => ?_)
  show bz_G _ _ _ _ _ _ _ _ _ _ _ _ 0 [(0, .ref o), (1, .int v1), (2, .int v2), (3, .int v3), (4, .int v4), (5, .ref a)] []
  refine g_aload (q := 2) dL_read_0 rfl rfl ?_
  refine g_iconst (q := 3) (v := (nI 0)) dL_read_2 rfl (by decide) ?_
  refine g_aload_n (q := 4) dL_read_3 rfl rfl ?_
  refine g_iload_n (q := 5) dL_read_4 rfl rfl ?_
  refine g_iload_n (q := 6) dL_read_5 rfl rfl ?_
  refine g_iload_n (q := 7) dL_read_6 rfl rfl ?_
  refine g_iload (q := 9) dL_read_7 rfl rfl ?_
  refine gh_catch (pre := [(0, 14, 17, 19), (0, 14, 21, 13)]) (suf := []) (a9 := 0) (b9 := 14) (h9 := 25) (ct := 57) dL_read_9 (by decide +kernel) (fun z h => (List.mem_cons.mp h).elim (fun e => by rw [e]; exact ⟨by decide, x_IOE, cl_IOE, by decide +kernel⟩) (fun h => by rw [List.mem_singleton.mp h]; exact ⟨by decide, x_IAE, cl_IAE, by decide +kernel⟩)) (by decide) (by decide) cl_ISE xs_ISE kv_L_83 hK rfl hd2 ho hg rfl (bz_le rfl) (fun z1 q9 hz1 => ?_)
  refine g_astore (q := 27) dL_read_25 rfl (by decide) rfl ?_
  refine g_iconst (q := 28) (v := (nI 3)) dL_read_27 rfl (by decide) ?_
  exact gh_iret dL_read_28 rfl hz1 (by decide) (by decide) ⟨rfl, rfl⟩
set_option maxRecDepth 20000 in
set_option maxHeartbeats 1000000 in
theorem hl_configure {l : Launch} {E : bz_E} {L : List Nat} {g : Nat → va_E} {o a d2 : Nat} {v1 v2 v3 v4 : Int32} {fs : List Value} {u : Nat → Int64} {Q : Int32 → (Nat → va_E) → Prop} (hd2 : d2 < 12) (ho : o ∈ L) (hg : g o = .inr (8, fs)) (hK : bz_K l E mX8_configure d2 [.ref o, .int v1, .int v2, .int v3, .int v4] L g (fun r g1 => ∃ v : Int32, r = some (.int v) ∧ bz_H L g1 a [eJ E u] ∧ Q v g1)) : bz_KH l E mL_configure tL_configure 12 [.ref o, .int v1, .int v2, .int v3, .int v4, .ref a] L g (fun r g1 => r = some (.int (nI 0)) ∧ ∃ (v : Int32) (g9 : Nat → va_E), Q v g9 ∧ bz_B L g9 g1 [(a, [eJ E (vp_updL u 0 v.toInt64)])]) := by
  refine bz_KH.of (by decide) (bz_le rfl) (by decide +kernel) (fun sz => ?_)
  show bz_G _ _ _ _ _ _ _ _ _ _ _ _ 0 [(0, .ref o), (1, .int v1), (2, .int v2), (3, .int v3), (4, .int v4), (5, .ref a)] []
  refine g_aload (q := 2) dL_configure_0 rfl rfl ?_
  refine g_iconst (q := 3) (v := (nI 0)) dL_configure_2 rfl (by decide) ?_
  refine g_aload_n (q := 4) dL_configure_3 rfl rfl ?_
  refine g_iload_n (q := 5) dL_configure_4 rfl rfl ?_
  refine g_iload_n (q := 6) dL_configure_5 rfl rfl ?_
  refine g_iload_n (q := 7) dL_configure_6 rfl rfl ?_
  refine g_iload (q := 9) dL_configure_7 rfl rfl ?_
  refine g_callV (q := 12) dL_configure_9 rfl kv_L_87 rfl hK hd2 ho hg rfl (bz_le rfl) (by decide) (by decide) (fun r g1 hQ => ?_)
  obtain ⟨v, rfl, hA, hQ⟩ := hQ
  have hB := bz_B.rf (bz_W.one hA)
  refine g_i2l (q := 13) dL_configure_12 rfl ?_
  refine gb_lastN (q := 14) (j := 0) (i := 0) dL_configure_13 rfl hB rfl rfl rfl (by omega) (by decide) (fun g hB => ?_)
  refine g_goto (q := 29) dL_configure_14 (by decide) ?_
  refine g_iconst (q := 30) (v := (nI 0)) dL_configure_29 rfl (by decide) ?_
  exact gh_iret dL_configure_30 rfl (Nat.le_refl _) (by decide) (by decide) ⟨rfl, v, _, hQ, hB⟩
set_option maxRecDepth 20000 in
set_option maxHeartbeats 1000000 in
theorem hx_configure_IOE {l : Launch} {E : bz_E} {L : List Nat} {g : Nat → va_E} {o a d2 : Nat} {v1 v2 v3 v4 : Int32} {fs : List Value} (hd2 : d2 < 12) (ho : o ∈ L) (hg : g o = .inr (8, fs)) (hK : bz_KX l E mX8_configure d2 [.ref o, .int v1, .int v2, .int v3, .int v4] L g x_IOE) : bz_KH l E mL_configure tL_configure 12 [.ref o, .int v1, .int v2, .int v3, .int v4, .ref a] L g (fun r g1 => r = some (.int (nI 1)) ∧ g1 = g) := by
  refine bz_KH.of (by decide) (bz_le rfl) (by decide +kernel) (fun sz => ?_)
  show bz_G _ _ _ _ _ _ _ _ _ _ _ _ 0 [(0, .ref o), (1, .int v1), (2, .int v2), (3, .int v3), (4, .int v4), (5, .ref a)] []
  refine g_aload (q := 2) dL_configure_0 rfl rfl ?_
  refine g_iconst (q := 3) (v := (nI 0)) dL_configure_2 rfl (by decide) ?_
  refine g_aload_n (q := 4) dL_configure_3 rfl rfl ?_
  refine g_iload_n (q := 5) dL_configure_4 rfl rfl ?_
  refine g_iload_n (q := 6) dL_configure_5 rfl rfl ?_
  refine g_iload_n (q := 7) dL_configure_6 rfl rfl ?_
  refine g_iload (q := 9) dL_configure_7 rfl rfl ?_
  refine gh_catch (pre := []) (suf := [(0, 14, 21, 13), (0, 14, 25, 57)]) (a9 := 0) (b9 := 14) (h9 := 17) (ct := 19) dL_configure_9 (by decide +kernel) (fun z h => by cases h) (by decide) (by decide) cl_IOE xs_IOE kv_L_87 hK rfl hd2 ho hg rfl (bz_le rfl) (fun z1 q9 hz1 => ?_)
  refine g_astore (q := 19) dL_configure_17 rfl (by decide) rfl ?_
  refine g_iconst (q := 20) (v := (nI 1)) dL_configure_19 rfl (by decide) ?_
  exact gh_iret dL_configure_20 rfl hz1 (by decide) (by decide) ⟨rfl, rfl⟩
set_option maxRecDepth 20000 in
set_option maxHeartbeats 1000000 in
theorem hx_configure_IAE {l : Launch} {E : bz_E} {L : List Nat} {g : Nat → va_E} {o a d2 : Nat} {v1 v2 v3 v4 : Int32} {fs : List Value} (hd2 : d2 < 12) (ho : o ∈ L) (hg : g o = .inr (8, fs)) (hK : bz_KX l E mX8_configure d2 [.ref o, .int v1, .int v2, .int v3, .int v4] L g x_IAE) : bz_KH l E mL_configure tL_configure 12 [.ref o, .int v1, .int v2, .int v3, .int v4, .ref a] L g (fun r g1 => r = some (.int (nI 2)) ∧ g1 = g) := by
  refine bz_KH.of (by decide) (bz_le rfl) (by decide +kernel) (fun sz => ?_)
  show bz_G _ _ _ _ _ _ _ _ _ _ _ _ 0 [(0, .ref o), (1, .int v1), (2, .int v2), (3, .int v3), (4, .int v4), (5, .ref a)] []
  refine g_aload (q := 2) dL_configure_0 rfl rfl ?_
  refine g_iconst (q := 3) (v := (nI 0)) dL_configure_2 rfl (by decide) ?_
  refine g_aload_n (q := 4) dL_configure_3 rfl rfl ?_
  refine g_iload_n (q := 5) dL_configure_4 rfl rfl ?_
  refine g_iload_n (q := 6) dL_configure_5 rfl rfl ?_
  refine g_iload_n (q := 7) dL_configure_6 rfl rfl ?_
  refine g_iload (q := 9) dL_configure_7 rfl rfl ?_
  refine gh_catch (pre := [(0, 14, 17, 19)]) (suf := [(0, 14, 25, 57)]) (a9 := 0) (b9 := 14) (h9 := 21) (ct := 13) dL_configure_9 (by decide +kernel) (fun z h => by rw [List.mem_singleton.mp h]; exact ⟨by decide, x_IOE, cl_IOE, by decide +kernel⟩) (by decide) (by decide) cl_IAE xs_IAE kv_L_87 hK rfl hd2 ho hg rfl (bz_le rfl) (fun z1 q9 hz1 => ?_)
  refine g_astore (q := 23) dL_configure_21 rfl (by decide) rfl ?_
  refine g_iconst (q := 24) (v := (nI 2)) dL_configure_23 rfl (by decide) ?_
  exact gh_iret dL_configure_24 rfl hz1 (by decide) (by decide) ⟨rfl, rfl⟩
set_option maxRecDepth 20000 in
set_option maxHeartbeats 1000000 in
theorem hx_configure_ISE {l : Launch} {E : bz_E} {L : List Nat} {g : Nat → va_E} {o a d2 : Nat} {v1 v2 v3 v4 : Int32} {fs : List Value} (hd2 : d2 < 12) (ho : o ∈ L) (hg : g o = .inr (8, fs)) (hK : bz_KX l E mX8_configure d2 [.ref o, .int v1, .int v2, .int v3, .int v4] L g x_ISE) : bz_KH l E mL_configure tL_configure 12 [.ref o, .int v1, .int v2, .int v3, .int v4, .ref a] L g (fun r g1 => r = some (.int (nI 3)) ∧ g1 = g) := by
  refine bz_KH.of (by decide) (bz_le rfl) (by decide +kernel) (fun sz => ?_)
  show bz_G _ _ _ _ _ _ _ _ _ _ _ _ 0 [(0, .ref o), (1, .int v1), (2, .int v2), (3, .int v3), (4, .int v4), (5, .ref a)] []
  refine g_aload (q := 2) dL_configure_0 rfl rfl ?_
  refine g_iconst (q := 3) (v := (nI 0)) dL_configure_2 rfl (by decide) ?_
  refine g_aload_n (q := 4) dL_configure_3 rfl rfl ?_
  refine g_iload_n (q := 5) dL_configure_4 rfl rfl ?_
  refine g_iload_n (q := 6) dL_configure_5 rfl rfl ?_
  refine g_iload_n (q := 7) dL_configure_6 rfl rfl ?_
  refine g_iload (q := 9) dL_configure_7 rfl rfl ?_
  refine gh_catch (pre := [(0, 14, 17, 19), (0, 14, 21, 13)]) (suf := []) (a9 := 0) (b9 := 14) (h9 := 25) (ct := 57) dL_configure_9 (by decide +kernel) (fun z h => (List.mem_cons.mp h).elim (fun e => by rw [e]; exact ⟨by decide, x_IOE, cl_IOE, by decide +kernel⟩) (fun h => by rw [List.mem_singleton.mp h]; exact ⟨by decide, x_IAE, cl_IAE, by decide +kernel⟩)) (by decide) (by decide) cl_ISE xs_ISE kv_L_87 hK rfl hd2 ho hg rfl (bz_le rfl) (fun z1 q9 hz1 => ?_)
  refine g_astore (q := 27) dL_configure_25 rfl (by decide) rfl ?_
  refine g_iconst (q := 28) (v := (nI 3)) dL_configure_27 rfl (by decide) ?_
  exact gh_iret dL_configure_28 rfl hz1 (by decide) (by decide) ⟨rfl, rfl⟩
set_option maxRecDepth 20000 in
set_option maxHeartbeats 1000000 in
theorem hl_release {l : Launch} {E : bz_E} {L : List Nat} {g : Nat → va_E} {o a d2 : Nat} {v1 v2 : Int32} {fs : List Value} {u : Nat → Int64} {Q : Int32 → (Nat → va_E) → Prop} (hd2 : d2 < 12) (ho : o ∈ L) (hg : g o = .inr (8, fs)) (hK : bz_K l E mX8_release d2 [.ref o, .int v1, .int v2] L g (fun r g1 => ∃ v : Int32, r = some (.int v) ∧ bz_H L g1 a [eJ E u] ∧ Q v g1)) : bz_KH l E mL_release tL_release 12 [.ref o, .int v1, .int v2, .ref a] L g (fun r g1 => r = some (.int (nI 0)) ∧ ∃ (v : Int32) (g9 : Nat → va_E), Q v g9 ∧ bz_B L g9 g1 [(a, [eJ E (vp_updL u 0 v.toInt64)])]) := by
  refine bz_KH.of (by decide) (bz_le rfl) (by decide +kernel) (fun sz => ?_)
  show bz_G _ _ _ _ _ _ _ _ _ _ _ _ 0 [(0, .ref o), (1, .int v1), (2, .int v2), (3, .ref a)] []
  refine g_aload_n (q := 1) dL_release_0 rfl rfl ?_
  refine g_iconst (q := 2) (v := (nI 0)) dL_release_1 rfl (by decide) ?_
  refine g_aload_n (q := 3) dL_release_2 rfl rfl ?_
  refine g_iload_n (q := 4) dL_release_3 rfl rfl ?_
  refine g_iload_n (q := 5) dL_release_4 rfl rfl ?_
  refine g_callV (q := 8) dL_release_5 rfl kv_L_90 rfl hK hd2 ho hg rfl (bz_le rfl) (by decide) (by decide) (fun r g1 hQ => ?_)
  obtain ⟨v, rfl, hA, hQ⟩ := hQ
  have hB := bz_B.rf (bz_W.one hA)
  refine g_i2l (q := 9) dL_release_8 rfl ?_
  refine gb_lastN (q := 10) (j := 0) (i := 0) dL_release_9 rfl hB rfl rfl rfl (by omega) (by decide) (fun g hB => ?_)
  refine g_goto (q := 21) dL_release_10 (by decide) ?_
  refine g_iconst (q := 22) (v := (nI 0)) dL_release_21 rfl (by decide) ?_
  exact gh_iret dL_release_22 rfl (Nat.le_refl _) (by decide) (by decide) ⟨rfl, v, _, hQ, hB⟩
set_option maxRecDepth 20000 in
set_option maxHeartbeats 1000000 in
theorem hx_release_IOE {l : Launch} {E : bz_E} {L : List Nat} {g : Nat → va_E} {o a d2 : Nat} {v1 v2 : Int32} {fs : List Value} (hd2 : d2 < 12) (ho : o ∈ L) (hg : g o = .inr (8, fs)) (hK : bz_KX l E mX8_release d2 [.ref o, .int v1, .int v2] L g x_IOE) : bz_KH l E mL_release tL_release 12 [.ref o, .int v1, .int v2, .ref a] L g (fun r g1 => r = some (.int (nI 1)) ∧ g1 = g) := by
  refine bz_KH.of (by decide) (bz_le rfl) (by decide +kernel) (fun sz => ?_)
  show bz_G _ _ _ _ _ _ _ _ _ _ _ _ 0 [(0, .ref o), (1, .int v1), (2, .int v2), (3, .ref a)] []
  refine g_aload_n (q := 1) dL_release_0 rfl rfl ?_
  refine g_iconst (q := 2) (v := (nI 0)) dL_release_1 rfl (by decide) ?_
  refine g_aload_n (q := 3) dL_release_2 rfl rfl ?_
  refine g_iload_n (q := 4) dL_release_3 rfl rfl ?_
  refine g_iload_n (q := 5) dL_release_4 rfl rfl ?_
  refine gh_catch (pre := []) (suf := [(0, 10, 17, 57)]) (a9 := 0) (b9 := 10) (h9 := 13) (ct := 19) dL_release_5 (by decide +kernel) (fun z h => by cases h) (by decide) (by decide) cl_IOE xs_IOE kv_L_90 hK rfl hd2 ho hg rfl (bz_le rfl) (fun z1 q9 hz1 => ?_)
  refine g_astore (q := 15) dL_release_13 rfl (by decide) rfl ?_
  refine g_iconst (q := 16) (v := (nI 1)) dL_release_15 rfl (by decide) ?_
  exact gh_iret dL_release_16 rfl hz1 (by decide) (by decide) ⟨rfl, rfl⟩
set_option maxRecDepth 20000 in
set_option maxHeartbeats 1000000 in
theorem hx_release_ISE {l : Launch} {E : bz_E} {L : List Nat} {g : Nat → va_E} {o a d2 : Nat} {v1 v2 : Int32} {fs : List Value} (hd2 : d2 < 12) (ho : o ∈ L) (hg : g o = .inr (8, fs)) (hK : bz_KX l E mX8_release d2 [.ref o, .int v1, .int v2] L g x_ISE) : bz_KH l E mL_release tL_release 12 [.ref o, .int v1, .int v2, .ref a] L g (fun r g1 => r = some (.int (nI 2)) ∧ g1 = g) := by
  refine bz_KH.of (by decide) (bz_le rfl) (by decide +kernel) (fun sz => ?_)
  show bz_G _ _ _ _ _ _ _ _ _ _ _ _ 0 [(0, .ref o), (1, .int v1), (2, .int v2), (3, .ref a)] []
  refine g_aload_n (q := 1) dL_release_0 rfl rfl ?_
  refine g_iconst (q := 2) (v := (nI 0)) dL_release_1 rfl (by decide) ?_
  refine g_aload_n (q := 3) dL_release_2 rfl rfl ?_
  refine g_iload_n (q := 4) dL_release_3 rfl rfl ?_
  refine g_iload_n (q := 5) dL_release_4 rfl rfl ?_
  refine gh_catch (pre := [(0, 10, 13, 19)]) (suf := []) (a9 := 0) (b9 := 10) (h9 := 17) (ct := 57) dL_release_5 (by decide +kernel) (fun z h => by rw [List.mem_singleton.mp h]; exact ⟨by decide, x_IOE, cl_IOE, by decide +kernel⟩) (by decide) (by decide) cl_ISE xs_ISE kv_L_90 hK rfl hd2 ho hg rfl (bz_le rfl) (fun z1 q9 hz1 => ?_)
  refine g_astore (q := 19) dL_release_17 rfl (by decide) rfl ?_
  refine g_iconst (q := 20) (v := (nI 2)) dL_release_19 rfl (by decide) ?_
  exact gh_iret dL_release_20 rfl hz1 (by decide) (by decide) ⟨rfl, rfl⟩
set_option maxRecDepth 20000 in
set_option maxHeartbeats 1000000 in
theorem hl_saveSnapshot {l : Launch} {E : bz_E} {L : List Nat} {g : Nat → va_E} {o a d2 : Nat} {v1 : Int32} {fs : List Value} {u : Nat → Int64} {Q : Int32 → (Nat → va_E) → Prop} (hd2 : d2 < 12) (ho : o ∈ L) (hg : g o = .inr (8, fs)) (hK : bz_K l E mX8_saveSnapshot d2 [.ref o, .int v1] L g (fun r g1 => ∃ v : Int32, r = some (.int v) ∧ bz_H L g1 a [eJ E u] ∧ Q v g1)) : bz_KH l E mL_saveSnapshot tL_saveSnapshot 12 [.ref o, .int v1, .ref a] L g (fun r g1 => r = some (.int (nI 0)) ∧ ∃ (v : Int32) (g9 : Nat → va_E), Q v g9 ∧ bz_B L g9 g1 [(a, [eJ E (vp_updL u 0 (if v = 0 then 0 else 1))])]) := by
  refine bz_KH.of (by decide) (bz_le rfl) (by decide +kernel) (fun sz => ?_)
  show bz_G _ _ _ _ _ _ _ _ _ _ _ _ 0 [(0, .ref o), (1, .int v1), (2, .ref a)] []
  refine g_aload_n (q := 1) dL_saveSnapshot_0 rfl rfl ?_
  refine g_iconst (q := 2) (v := (nI 0)) dL_saveSnapshot_1 rfl (by decide) ?_
  refine g_aload_n (q := 3) dL_saveSnapshot_2 rfl rfl ?_
  refine g_iload_n (q := 4) dL_saveSnapshot_3 rfl rfl ?_
  refine g_callV (q := 7) dL_saveSnapshot_4 rfl kv_L_93 rfl hK hd2 ho hg rfl (bz_le rfl) (by decide) (by decide) (fun r g1 hQ => ?_)
  obtain ⟨v, rfl, hA, hQ⟩ := hQ
  have hB := bz_B.rf (bz_W.one hA)
  refine g_if_eq (q := 10) (t := 14) dL_saveSnapshot_7 rfl (by decide) (fun c_7 => ?_) (fun c_7 => ?_)
  · refine g_lconst (q := 15) (v := 0) dL_saveSnapshot_14 rfl (by decide) ?_
    refine gb_lastN (q := 16) (j := 0) (i := 0) dL_saveSnapshot_15 rfl hB rfl rfl rfl (by omega) (by decide) (fun g hB => ?_)
    refine g_goto (q := 22) dL_saveSnapshot_16 (by decide) ?_
    refine g_iconst (q := 23) (v := (nI 0)) dL_saveSnapshot_22 rfl (by decide) ?_
    exact gh_iret dL_saveSnapshot_23 rfl (Nat.le_refl _) (by decide) (by decide) ⟨rfl, v, _, hQ, (by first | (rw [if_pos c_7]; exact hB) | (rw [if_neg c_7]; exact hB))⟩
  · refine g_lconst (q := 11) (v := 1) dL_saveSnapshot_10 rfl (by decide) ?_
    refine g_goto (q := 15) dL_saveSnapshot_11 (by decide) ?_
    refine gb_lastN (q := 16) (j := 0) (i := 0) dL_saveSnapshot_15 rfl hB rfl rfl rfl (by omega) (by decide) (fun g hB => ?_)
    refine g_goto (q := 22) dL_saveSnapshot_16 (by decide) ?_
    refine g_iconst (q := 23) (v := (nI 0)) dL_saveSnapshot_22 rfl (by decide) ?_
    exact gh_iret dL_saveSnapshot_23 rfl (Nat.le_refl _) (by decide) (by decide) ⟨rfl, v, _, hQ, (by first | (rw [if_pos c_7]; exact hB) | (rw [if_neg c_7]; exact hB))⟩
set_option maxRecDepth 20000 in
set_option maxHeartbeats 1000000 in
theorem hx_saveSnapshot_IOE {l : Launch} {E : bz_E} {L : List Nat} {g : Nat → va_E} {o a d2 : Nat} {v1 : Int32} {fs : List Value} (hd2 : d2 < 12) (ho : o ∈ L) (hg : g o = .inr (8, fs)) (hK : bz_KX l E mX8_saveSnapshot d2 [.ref o, .int v1] L g x_IOE) : bz_KH l E mL_saveSnapshot tL_saveSnapshot 12 [.ref o, .int v1, .ref a] L g (fun r g1 => r = some (.int (nI 1)) ∧ g1 = g) := by
  refine bz_KH.of (by decide) (bz_le rfl) (by decide +kernel) (fun sz => ?_)
  show bz_G _ _ _ _ _ _ _ _ _ _ _ _ 0 [(0, .ref o), (1, .int v1), (2, .ref a)] []
  refine g_aload_n (q := 1) dL_saveSnapshot_0 rfl rfl ?_
  refine g_iconst (q := 2) (v := (nI 0)) dL_saveSnapshot_1 rfl (by decide) ?_
  refine g_aload_n (q := 3) dL_saveSnapshot_2 rfl rfl ?_
  refine g_iload_n (q := 4) dL_saveSnapshot_3 rfl rfl ?_
  refine gh_catch (pre := []) (suf := []) (a9 := 0) (b9 := 16) (h9 := 19) (ct := 19) dL_saveSnapshot_4 (by decide +kernel) (fun z h => by cases h) (by decide) (by decide) cl_IOE xs_IOE kv_L_93 hK rfl hd2 ho hg rfl (bz_le rfl) (fun z1 q9 hz1 => ?_)
  refine g_astore_n (q := 20) rfl dL_saveSnapshot_19 rfl (by decide) rfl ?_
  refine g_iconst (q := 21) (v := (nI 1)) dL_saveSnapshot_20 rfl (by decide) ?_
  exact gh_iret dL_saveSnapshot_21 rfl hz1 (by decide) (by decide) ⟨rfl, rfl⟩
set_option maxRecDepth 20000 in
set_option maxHeartbeats 1000000 in
theorem hl_restoreSnapshot {l : Launch} {E : bz_E} {L : List Nat} {g : Nat → va_E} {o a d2 : Nat} {v1 : Int32} {fs : List Value} {u : Nat → Int64} {Q : Int32 → (Nat → va_E) → Prop} (hd2 : d2 < 12) (ho : o ∈ L) (hg : g o = .inr (8, fs)) (hK : bz_K l E mX8_restoreSnapshot d2 [.ref o, .int v1] L g (fun r g1 => ∃ v : Int32, r = some (.int v) ∧ bz_H L g1 a [eJ E u] ∧ Q v g1)) : bz_KH l E mL_restoreSnapshot tL_restoreSnapshot 12 [.ref o, .int v1, .ref a] L g (fun r g1 => r = some (.int (nI 0)) ∧ ∃ (v : Int32) (g9 : Nat → va_E), Q v g9 ∧ bz_B L g9 g1 [(a, [eJ E (vp_updL u 0 v.toInt64)])]) := by
  refine bz_KH.of (by decide) (bz_le rfl) (by decide +kernel) (fun sz => ?_)
  show bz_G _ _ _ _ _ _ _ _ _ _ _ _ 0 [(0, .ref o), (1, .int v1), (2, .ref a)] []
  refine g_aload_n (q := 1) dL_restoreSnapshot_0 rfl rfl ?_
  refine g_iconst (q := 2) (v := (nI 0)) dL_restoreSnapshot_1 rfl (by decide) ?_
  refine g_aload_n (q := 3) dL_restoreSnapshot_2 rfl rfl ?_
  refine g_iload_n (q := 4) dL_restoreSnapshot_3 rfl rfl ?_
  refine g_callV (q := 7) dL_restoreSnapshot_4 rfl kv_L_97 rfl hK hd2 ho hg rfl (bz_le rfl) (by decide) (by decide) (fun r g1 hQ => ?_)
  obtain ⟨v, rfl, hA, hQ⟩ := hQ
  have hB := bz_B.rf (bz_W.one hA)
  refine g_i2l (q := 8) dL_restoreSnapshot_7 rfl ?_
  refine gb_lastN (q := 9) (j := 0) (i := 0) dL_restoreSnapshot_8 rfl hB rfl rfl rfl (by omega) (by decide) (fun g hB => ?_)
  refine g_goto (q := 18) dL_restoreSnapshot_9 (by decide) ?_
  refine g_iconst (q := 19) (v := (nI 0)) dL_restoreSnapshot_18 rfl (by decide) ?_
  exact gh_iret dL_restoreSnapshot_19 rfl (Nat.le_refl _) (by decide) (by decide) ⟨rfl, v, _, hQ, hB⟩
set_option maxRecDepth 20000 in
set_option maxHeartbeats 1000000 in
theorem hx_restoreSnapshot_IOE {l : Launch} {E : bz_E} {L : List Nat} {g : Nat → va_E} {o a d2 : Nat} {v1 : Int32} {fs : List Value} (hd2 : d2 < 12) (ho : o ∈ L) (hg : g o = .inr (8, fs)) (hK : bz_KX l E mX8_restoreSnapshot d2 [.ref o, .int v1] L g x_IOE) : bz_KH l E mL_restoreSnapshot tL_restoreSnapshot 12 [.ref o, .int v1, .ref a] L g (fun r g1 => r = some (.int (nI 1)) ∧ g1 = g) := by
  refine bz_KH.of (by decide) (bz_le rfl) (by decide +kernel) (fun sz => ?_)
  show bz_G _ _ _ _ _ _ _ _ _ _ _ _ 0 [(0, .ref o), (1, .int v1), (2, .ref a)] []
  refine g_aload_n (q := 1) dL_restoreSnapshot_0 rfl rfl ?_
  refine g_iconst (q := 2) (v := (nI 0)) dL_restoreSnapshot_1 rfl (by decide) ?_
  refine g_aload_n (q := 3) dL_restoreSnapshot_2 rfl rfl ?_
  refine g_iload_n (q := 4) dL_restoreSnapshot_3 rfl rfl ?_
  refine gh_catch (pre := []) (suf := [(0, 9, 15, 57)]) (a9 := 0) (b9 := 9) (h9 := 12) (ct := 19) dL_restoreSnapshot_4 (by decide +kernel) (fun z h => by cases h) (by decide) (by decide) cl_IOE xs_IOE kv_L_97 hK rfl hd2 ho hg rfl (bz_le rfl) (fun z1 q9 hz1 => ?_)
  refine g_astore_n (q := 13) rfl dL_restoreSnapshot_12 rfl (by decide) rfl ?_
  refine g_iconst (q := 14) (v := (nI 1)) dL_restoreSnapshot_13 rfl (by decide) ?_
  exact gh_iret dL_restoreSnapshot_14 rfl hz1 (by decide) (by decide) ⟨rfl, rfl⟩
set_option maxRecDepth 20000 in
set_option maxHeartbeats 1000000 in
theorem hx_restoreSnapshot_ISE {l : Launch} {E : bz_E} {L : List Nat} {g : Nat → va_E} {o a d2 : Nat} {v1 : Int32} {fs : List Value} (hd2 : d2 < 12) (ho : o ∈ L) (hg : g o = .inr (8, fs)) (hK : bz_KX l E mX8_restoreSnapshot d2 [.ref o, .int v1] L g x_ISE) : bz_KH l E mL_restoreSnapshot tL_restoreSnapshot 12 [.ref o, .int v1, .ref a] L g (fun r g1 => r = some (.int (nI 2)) ∧ g1 = g) := by
  refine bz_KH.of (by decide) (bz_le rfl) (by decide +kernel) (fun sz => ?_)
  show bz_G _ _ _ _ _ _ _ _ _ _ _ _ 0 [(0, .ref o), (1, .int v1), (2, .ref a)] []
  refine g_aload_n (q := 1) dL_restoreSnapshot_0 rfl rfl ?_
  refine g_iconst (q := 2) (v := (nI 0)) dL_restoreSnapshot_1 rfl (by decide) ?_
  refine g_aload_n (q := 3) dL_restoreSnapshot_2 rfl rfl ?_
  refine g_iload_n (q := 4) dL_restoreSnapshot_3 rfl rfl ?_
  refine gh_catch (pre := [(0, 9, 12, 19)]) (suf := []) (a9 := 0) (b9 := 9) (h9 := 15) (ct := 57) dL_restoreSnapshot_4 (by decide +kernel) (fun z h => by rw [List.mem_singleton.mp h]; exact ⟨by decide, x_IOE, cl_IOE, by decide +kernel⟩) (by decide) (by decide) cl_ISE xs_ISE kv_L_97 hK rfl hd2 ho hg rfl (bz_le rfl) (fun z1 q9 hz1 => ?_)
  refine g_astore_n (q := 16) rfl dL_restoreSnapshot_15 rfl (by decide) rfl ?_
  refine g_iconst (q := 17) (v := (nI 2)) dL_restoreSnapshot_16 rfl (by decide) ?_
  exact gh_iret dL_restoreSnapshot_17 rfl hz1 (by decide) (by decide) ⟨rfl, rfl⟩
