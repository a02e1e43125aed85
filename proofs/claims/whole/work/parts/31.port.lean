/-! class Port: what a side does in step 2 -/
abbrev b_Port (E : bz_E) (o : Nat) (fq cq : Nat → Int32) (zq : Int32) (fw cw : Nat → Int32) (zw : Int32) (s wn cm wd mem : Nat → Int32) (a b c : Int32) : List va_E :=
  .inr (4, [.ref (o + 1), .ref (o + 4), .ref (o + 7), .ref (o + 12), .int a, .int b, .int c]) :: (b_Line E (o + 1) fq cq zq ++ (b_Line E (o + 4) fw cw zw ++ (b_Tags E (o + 7) s wn cm wd ++ [.inl (E.1.1 21, 16, .inl mem)])))
def s_lok (l : List Tx) : Prop := (∀ y ∈ l, s_ok y) ∧ ∀ k, k < 4 → s_cnt k l ≤ 8
theorem s_lok.len {l : List Tx} (h : s_lok l) : l.length ≤ 32 := by
  have := s_cnt_len l (fun x hx => (h.1 x hx).1)
  have h0 := h.2 0 (by omega); have h1 := h.2 1 (by omega); have h2 := h.2 2 (by omega); have h3 := h.2 3 (by omega)
  omega
theorem s_lok.lt {l : List Tx} (h : s_lok l) {k : Nat} (hk : k < 4) (hc : s_cnt k l < 8) : l.length < 32 := by
  have := s_cnt_len l (fun x hx => (h.1 x hx).1)
  have h0 := h.2 0 (by omega); have h1 := h.2 1 (by omega); have h2 := h.2 2 (by omega); have h3 := h.2 3 (by omega)
  rcases (show k = 0 ∨ k = 1 ∨ k = 2 ∨ k = 3 by omega) with e | e | e | e <;> subst e <;> omega
theorem s_lok.app {l : List Tx} (h : s_lok l) {x : Tx} (hx : s_ok x) (hc : s_cnt (tK x) l < 8) : s_lok (l ++ [x]) := by
  refine ⟨fun y hy => ?_, fun k hk => ?_⟩
  · rcases List.mem_append.mp hy with h1 | h1
    · exact h.1 y h1
    · rw [List.mem_singleton.mp h1]; exact hx
  · rw [s_cnt_app]
    by_cases e : tK x = k
    · rw [if_pos e, ← e]; omega
    · rw [if_neg e]; exact h.2 k hk
theorem s_cmp_ok {mem : Nat → Int32} {x : Tx} {off part now : Nat} (hx : s_ok x) (hp : off + part ≤ tW x) (hn : now < 100000) : s_ok (s_cmp mem x off part now) := by
  obtain ⟨h1, h2, h3, h4, h5, h6, h7, -⟩ := hx
  have hl : (tV (s_cmp mem x off part now)).length = part := by simp [s_cmp, tV]
  refine ⟨by show 3 < 4; omega, h2, by show tA x + off + part ≤ 16; omega, by show part ≤ 4; omega, hn, by show off ≤ 4; omega, by rw [hl]; omega, fun h => ?_, fun _ => ⟨hl, by show off + part ≤ 4; omega⟩, fun h => ?_⟩
  · rcases h with h | h <;> (exact absurd (show (3 : Nat) = _ from h) (by decide))
  · exact absurd (show (3 : Nat) = 1 from h) (by decide)
theorem s_wr0 (mem : Nat → Int32) (a : Nat) (vs : List Int32) : s_wr mem a (vs.take 0) = mem := by
  funext i
  simp [s_wr]
theorem s_wrS {mem : Nat → Int32} {a i : Nat} {vs : List Int32} {v : Int32} (h : vs[i]? = some v) : upd (s_wr mem a (vs.take i)) (a + i) v = s_wr mem a (vs.take (i + 1)) := by
  funext j
  unfold s_wr upd
  by_cases hj : j = a + i
  · subst hj
    rw [if_pos rfl, if_pos (by omega), show a + i - a = i by omega, List.getElem?_take, if_pos (by omega), h]
    rfl
  · rw [if_neg hj]
    by_cases ha : a ≤ j
    · rw [if_pos ha, if_pos ha, List.getElem?_take, List.getElem?_take]
      by_cases hi : j - a < i
      · rw [if_pos hi, if_pos (by omega)]
      · rw [if_neg hi, if_neg (by omega)]
    · rw [if_neg ha, if_neg ha]

set_option maxRecDepth 20000 in
set_option maxHeartbeats 1000000 in
theorem c_writeMemory {l : Launch} {E : bz_E} {L : List Nat} {g : Nat → va_E} {o p : Nat} {x : Tx} {fq cq fw cw s wn cm wd mem : Nat → Int32} {zq zw a b c : Int32} (hp : p < 32) (hx : s_tx fw p x) (hV : (tV x).length = tW x) (hA : tA x + tW x ≤ 16) (hW4 : tW x ≤ 4) (hH : bz_H L g o (b_Port E o fq cq zq fw cw zw s wn cm wd mem a b c)) : bz_K l E mX4_writeMemory 1 [.ref o, .int (nI p)] L g (fun r g1 => r = none ∧ bz_B L g g1 [(o, (b_Port E o fq cq zq fw cw zw s wn cm wd (s_wr mem (tA x) (tV x)) a b c))]) := by
  refine bz_K.of (by decide) (bz_le rfl) (fun sz => ?_)
  have hB := bz_B.rf (bz_W.one hH)
  show bz_G _ _ _ _ _ _ _ _ _ _ _ _ 0 [(0, .ref o), (1, .int (nI p))] []
  have K : ∀ (m i : Nat) (g1 : Nat → va_E), i + m = tW x → bz_B L g g1 [(o, (b_Port E o fq cq zq fw cw zw s wn cm wd (s_wr mem (tA x) ((tV x).take i)) a b c))] → bz_G l E mX4_writeMemory (bz_R 1 0 0) L sz (bz_Fm E L sz (fun r g1 => r = none ∧ bz_B L g g1 [(o, (b_Port E o fq cq zq fw cw zw s wn cm wd (s_wr mem (tA x) (tV x)) a b c))])) sz 0 0 L g1 12 [(3, .int (nI i)), (2, .int (nI (tW x))), (0, .ref o), (1, .int (nI p))] [] := by
    intro m
    induction m with
    | zero =>
      intro i g hi hB
      refine g_iload_n (q := 13) dX4_writeMemory_12 rfl rfl ?_
      refine g_iload_n (q := 14) dX4_writeMemory_13 rfl rfl ?_
      refine g_icmpN_ge (q := 17) (t := 72) dX4_writeMemory_14 rfl (by decide) (by omega) (by omega) (fun _ => ?_) (fun c => absurd c (by omega))
      exact g_vret dX4_writeMemory_72 rfl (⟨rfl, by rw [List.take_of_length_le (by omega)] at hB; exact hB⟩)
    | succ m ih =>
      intro i g hi hB
      refine g_iload_n (q := 13) dX4_writeMemory_12 rfl rfl ?_
      refine g_iload_n (q := 14) dX4_writeMemory_13 rfl rfl ?_
      refine g_icmpN_ge (q := 17) (t := 72) dX4_writeMemory_14 rfl (by decide) (by omega) (by omega) (fun c => absurd c (by omega)) (fun _ => ?_)
      refine g_iload_n (q := 18) dX4_writeMemory_17 rfl rfl ?_
      refine g_iconst (q := 19) (v := (nI 4)) dX4_writeMemory_18 rfl (by decide) ?_
      refine g_icmpN_ge (q := 22) (t := 72) dX4_writeMemory_19 rfl (by decide) (by omega) (by omega) (fun c => absurd c (by omega)) (fun _ => ?_)
      refine g_aload_n (q := 23) dX4_writeMemory_22 rfl rfl ?_
      refine gb_getf (q := 26) (j := 0) (i := 0) dX4_writeMemory_23 rfl fl_X4_18 hB rfl rfl rfl rfl ?_
      refine g_iload_n (q := 27) dX4_writeMemory_26 rfl rfl ?_
      refine g_iconst (q := 28) (v := (nI 3)) dX4_writeMemory_27 rfl (by decide) ?_
      refine gb_callV (q := 31) (j := 0) (i := 4) dX4_writeMemory_28 rfl kv_X4_71 (c_get (x := 3) (by omega) ((hB.1.at (j := 0) rfl).sub 4 rfl)) rfl (by decide) hB rfl rfl rfl rfl (bz_le rfl) (by decide) (by decide) (fun r g1 hQ => ?_)
      obtain ⟨rfl, rfl⟩ := hQ
      refine g_eqi (v := nI (tA x)) (hx.2.2.2.1) ?_
      refine g_iload_n (q := 32) dX4_writeMemory_31 rfl rfl ?_
      refine g_iaddN (q := 33) dX4_writeMemory_32 rfl ?_
      refine g_istore (q := 35) dX4_writeMemory_33 rfl (by decide) rfl ?_
      refine g_iload (q := 37) dX4_writeMemory_35 rfl rfl ?_
      refine g_ifN_lt (q := 40) (t := 66) dX4_writeMemory_37 rfl (by decide) (by omega) ?_
      refine g_iload (q := 42) dX4_writeMemory_40 rfl rfl ?_
      refine g_bipush (q := 44) (v := (nI 16)) dX4_writeMemory_42 rfl (by decide) ?_
      refine g_icmpN_ge (q := 47) (t := 66) dX4_writeMemory_44 rfl (by decide) (by omega) (by omega) (fun c => absurd c (by omega)) (fun _ => ?_)
      refine g_aload_n (q := 48) dX4_writeMemory_47 rfl rfl ?_
      refine gb_getf (q := 51) (j := 0) (i := 0) dX4_writeMemory_48 rfl fl_X4_28 hB rfl rfl rfl rfl ?_
      refine g_iload (q := 53) dX4_writeMemory_51 rfl rfl ?_
      refine g_aload_n (q := 54) dX4_writeMemory_53 rfl rfl ?_
      refine gb_getf (q := 57) (j := 0) (i := 0) dX4_writeMemory_54 rfl fl_X4_18 hB rfl rfl rfl rfl ?_
      refine g_iload_n (q := 58) dX4_writeMemory_57 rfl rfl ?_
      refine g_bipush (q := 60) (v := (nI 7)) dX4_writeMemory_58 rfl (by decide) ?_
      refine g_iload_n (q := 61) dX4_writeMemory_60 rfl rfl ?_
      refine g_iaddN (q := 62) dX4_writeMemory_61 rfl ?_
      refine gb_callV (q := 65) (j := 0) (i := 4) dX4_writeMemory_62 rfl kv_X4_71 (c_get (x := 7 + i) (by omega) ((hB.1.at (j := 0) rfl).sub 4 rfl)) rfl (by decide) hB rfl rfl rfl rfl (bz_le rfl) (by decide) (by decide) (fun r g1 hQ => ?_)
      obtain ⟨rfl, rfl⟩ := hQ
      refine gb_iastN (q := 66) (j := 0) (i := 12) dX4_writeMemory_65 rfl hB rfl rfl rfl (by omega) (by decide) (fun g hB => ?_)
      refine g_iincN (q := 69) (c := 1) dX4_writeMemory_66 rfl (by decide) rfl rfl (by decide) ?_
      refine g_goto (q := 12) dX4_writeMemory_69 (by decide) ?_
      refine g_lvs (lv1 := [(3, .int (nI (i + 1))), (2, .int (nI (tW x))), (0, .ref o), (1, .int (nI p))]) ⟨rfl, rfl, rfl, rfl, trivial⟩ ?_
      refine ih (i + 1) g (by omega) ?_
      rw [← s_wrS (v := fw (p * 11 + (7 + i))) (by rw [List.getElem?_eq_getElem (by omega)]; exact congrArg some (hx.2.2.2.2.2.2.2 i _ (List.getElem?_eq_getElem (by omega))).symm)]
      exact hB
  refine g_aload_n (q := 1) dX4_writeMemory_0 rfl rfl ?_
  refine gb_getf (q := 4) (j := 0) (i := 0) dX4_writeMemory_1 rfl fl_X4_18 hB rfl rfl rfl rfl ?_
  refine g_iload_n (q := 5) dX4_writeMemory_4 rfl rfl ?_
  refine g_iconst (q := 6) (v := (nI 4)) dX4_writeMemory_5 rfl (by decide) ?_
  refine gb_callV (q := 9) (j := 0) (i := 4) dX4_writeMemory_6 rfl kv_X4_71 (c_get (x := 4) (by omega) ((hB.1.at (j := 0) rfl).sub 4 rfl)) rfl (by decide) hB rfl rfl rfl rfl (bz_le rfl) (by decide) (by decide) (fun r g1 hQ => ?_)
  obtain ⟨rfl, rfl⟩ := hQ
  refine g_eqi (v := nI (tW x)) (hx.2.2.2.2.1) ?_
  refine g_istore_n (q := 10) rfl dX4_writeMemory_9 rfl (by decide) rfl ?_
  refine g_iconst (q := 11) (v := (nI 0)) dX4_writeMemory_10 rfl (by decide) ?_
  refine g_istore_n (q := 12) rfl dX4_writeMemory_11 rfl (by decide) rfl ?_
  refine g_lvs (lv1 := [(3, .int (nI 0)), (2, .int (nI (tW x))), (0, .ref o), (1, .int (nI p))]) ⟨rfl, rfl, rfl, rfl, trivial⟩ ?_
  exact K (tW x) 0 g (by omega) (by rw [s_wr0]; exact hB)
