/-! class Port: what a side does in step 2 -/
abbrev b_Port (E : bz_E) (o : Nat) (fq cq : Nat → Int32) (zq : Int32) (fw cw : Nat → Int32) (zw : Int32) (s wn cm wd mem : Nat → Int32) (a b c : Int32) : List va_E :=
  .inr (4, [.ref (o + 1), .ref (o + 4), .ref (o + 7), .ref (o + 12), .int a, .int b, .int c]) :: (b_Line E (o + 1) fq cq zq ++ (b_Line E (o + 4) fw cw zw ++ (b_Tags E (o + 7) s wn cm wd ++ [.inl (E.1.1 21, 16, .inl mem)])))
def s_lok (l : List Tx) : Prop := (∀ y ∈ l, s_ok y) ∧ ∀ k, k < 4 → s_cnt k l ≤ 8
theorem s_lok.len {l : List Tx} (h : s_lok l) : l.length ≤ 32 := by
  have := s_cnt_len l (fun x hx => (h.1 x hx).1)
  have h0 := h.2 0 (by omega); have h1 := h.2 1 (by omega); have h2 := h.2 2 (by omega); have h3 := h.2 3 (by omega)
  omega
theorem s_lok.lt {l : List Tx} (h : s_lok l) {k : Nat} (hk : k < 4) (hc : s_cnt k l < 8) : l.length < 32 := by
  have := s_cnt_len l (fun x hx => (h.1 x hx).1)
  have h0 := h.2 0 (by omega); have h1 := h.2 1 (by omega); have h2 := h.2 2 (by omega); have h3 := h.2 3 (by omega)
  rcases (show k = 0 ∨ k = 1 ∨ k = 2 ∨ k = 3 by omega) with e | e | e | e <;> subst e <;> omega
theorem s_lok.app {l : List Tx} (h : s_lok l) {x : Tx} (hx : s_ok x) (hc : s_cnt (tK x) l < 8) : s_lok (l ++ [x]) := by
  refine ⟨fun y hy => ?_, fun k hk => ?_⟩
  · rcases List.mem_append.mp hy with h1 | h1
    · exact h.1 y h1
    · rw [List.mem_singleton.mp h1]; exact hx
  · rw [s_cnt_app]
    by_cases e : tK x = k
    · rw [if_pos e, ← e]; omega
    · rw [if_neg e]; exact h.2 k hk
theorem s_cmp_ok {mem : Nat → Int32} {x : Tx} {off part now : Nat} (hx : s_ok x) (hp : off + part ≤ tW x) (hn : now < 100000) : s_ok (s_cmp mem x off part now) := by
  obtain ⟨h1, h2, h3, h4, h5, h6, h7, -⟩ := hx
  have hl : (tV (s_cmp mem x off part now)).length = part := by simp [s_cmp, tV]
  refine ⟨by show 3 < 4; omega, h2, by show tA x + off + part ≤ 16; omega, by show part ≤ 4; omega, hn, by show off ≤ 4; omega, by rw [hl]; omega, fun h => ?_, fun _ => ⟨hl, by show off + part ≤ 4; omega⟩, fun h => ?_⟩
  · rcases h with h | h <;> (exact absurd (show (3 : Nat) = _ from h) (by decide))
  · exact absurd (show (3 : Nat) = 1 from h) (by decide)
theorem s_wr0 (mem : Nat → Int32) (a : Nat) (vs : List Int32) : s_wr mem a (vs.take 0) = mem := by
  funext i
  simp [s_wr]
theorem s_wrS {mem : Nat → Int32} {a i : Nat} {vs : List Int32} {v : Int32} (h : vs[i]? = some v) : upd (s_wr mem a (vs.take i)) (a + i) v = s_wr mem a (vs.take (i + 1)) := by
  funext j
  unfold s_wr upd
  by_cases hj : j = a + i
  · subst hj
    rw [if_pos rfl, if_pos (by omega), show a + i - a = i by omega, List.getElem?_take, if_pos (by omega), h]
    rfl
  · rw [if_neg hj]
    dsimp only
    by_cases ha : a ≤ j
    · rw [if_pos ha, if_pos ha, List.getElem?_take, List.getElem?_take]
      by_cases hi : j - a < i
      · rw [if_pos hi, if_pos (by omega)]
      · rw [if_neg hi, if_neg (by omega)]
    · rw [if_neg ha, if_neg ha]

set_option maxRecDepth 20000 in
set_option maxHeartbeats 1000000 in
theorem c_writeMemory {l : Launch} {E : bz_E} {L : List Nat} {g : Nat → va_E} {o p : Nat} {x : Tx} {fq cq fw cw s wn cm wd mem : Nat → Int32} {zq zw a b c : Int32} (hp : p < 32) (hx : s_tx fw p x) (hV : (tV x).length = tW x) (hA : tA x + tW x ≤ 16) (hW4 : tW x ≤ 4) (hH : bz_H L g o (b_Port E o fq cq zq fw cw zw s wn cm wd mem a b c)) : bz_K l E mX4_writeMemory 1 [.ref o, .int (nI p)] L g (fun r g1 => r = none ∧ bz_B L g g1 [(o, (b_Port E o fq cq zq fw cw zw s wn cm wd (s_wr mem (tA x) (tV x)) a b c))]) := by
  refine bz_K.of (by decide) (bz_le rfl) (fun sz => ?_)
  have hB := bz_B.rf (bz_W.one hH)
  show bz_G _ _ _ _ _ _ _ _ _ _ _ _ 0 [(0, .ref o), (1, .int (nI p))] []
  have K : ∀ (m i : Nat) (g1 : Nat → va_E), i + m = tW x → bz_B L g g1 [(o, (b_Port E o fq cq zq fw cw zw s wn cm wd (s_wr mem (tA x) ((tV x).take i)) a b c))] → bz_G l E mX4_writeMemory (bz_R 1 0 0) L sz (bz_Fm E L sz (fun r g1 => r = none ∧ bz_B L g g1 [(o, (b_Port E o fq cq zq fw cw zw s wn cm wd (s_wr mem (tA x) (tV x)) a b c))])) sz 0 0 L g1 12 [(3, .int (nI i)), (2, .int (nI (tW x))), (0, .ref o), (1, .int (nI p))] [] := by
    intro m
    induction m with
    | zero =>
      intro i g hi hB
      refine g_iload_n (q := 13) dX4_writeMemory_12 rfl rfl ?_
      refine g_iload_n (q := 14) dX4_writeMemory_13 rfl rfl ?_
      refine g_icmpN_ge (q := 17) (t := 72) dX4_writeMemory_14 rfl (by decide) (by omega) (by omega) (fun _ => ?_) (fun c => absurd c (by omega))
      exact g_vret dX4_writeMemory_72 rfl (⟨rfl, by rw [List.take_of_length_le (by omega)] at hB; exact hB⟩)
    | succ m ih =>
      intro i g hi hB
      refine g_iload_n (q := 13) dX4_writeMemory_12 rfl rfl ?_
      refine g_iload_n (q := 14) dX4_writeMemory_13 rfl rfl ?_
      refine g_icmpN_ge (q := 17) (t := 72) dX4_writeMemory_14 rfl (by decide) (by omega) (by omega) (fun c => absurd c (by omega)) (fun _ => ?_)
      refine g_iload_n (q := 18) dX4_writeMemory_17 rfl rfl ?_
      refine g_iconst (q := 19) (v := (nI 4)) dX4_writeMemory_18 rfl (by decide) ?_
      refine g_icmpN_ge (q := 22) (t := 72) dX4_writeMemory_19 rfl (by decide) (by omega) (by omega) (fun c => absurd c (by omega)) (fun _ => ?_)
      refine g_aload_n (q := 23) dX4_writeMemory_22 rfl rfl ?_
      refine gb_getf (q := 26) (j := 0) (i := 0) dX4_writeMemory_23 rfl fl_X4_18 hB rfl rfl rfl rfl ?_
      refine g_iload_n (q := 27) dX4_writeMemory_26 rfl rfl ?_
      refine g_iconst (q := 28) (v := (nI 3)) dX4_writeMemory_27 rfl (by decide) ?_
      refine gb_callV (q := 31) (j := 0) (i := 4) dX4_writeMemory_28 rfl kv_X4_71 (c_get (x := 3) (by omega) ((hB.1.at (j := 0) rfl).sub 4 rfl)) rfl (by decide) hB rfl rfl rfl rfl (bz_le rfl) (by decide) (by decide) (fun r g1 hQ => ?_)
      obtain ⟨rfl, hg⟩ := hQ
      have hg := hg.symm
      subst hg
      refine g_eqi (v := nI (tA x)) (hx.2.2.2.1) ?_
      refine g_iload_n (q := 32) dX4_writeMemory_31 rfl rfl ?_
      refine g_iaddN (q := 33) dX4_writeMemory_32 rfl ?_
      refine g_istore (q := 35) dX4_writeMemory_33 rfl (by decide) rfl ?_
      refine g_iload (q := 37) dX4_writeMemory_35 rfl rfl ?_
      refine g_ifN_lt (q := 40) (t := 66) dX4_writeMemory_37 rfl (by decide) (by omega) ?_
      refine g_iload (q := 42) dX4_writeMemory_40 rfl rfl ?_
      refine g_bipush (q := 44) (v := (nI 16)) dX4_writeMemory_42 rfl (by decide) ?_
      refine g_icmpN_ge (q := 47) (t := 66) dX4_writeMemory_44 rfl (by decide) (by omega) (by omega) (fun c => absurd c (by omega)) (fun _ => ?_)
      refine g_aload_n (q := 48) dX4_writeMemory_47 rfl rfl ?_
      refine gb_getf (q := 51) (j := 0) (i := 0) dX4_writeMemory_48 rfl fl_X4_28 hB rfl rfl rfl rfl ?_
      refine g_iload (q := 53) dX4_writeMemory_51 rfl rfl ?_
      refine g_aload_n (q := 54) dX4_writeMemory_53 rfl rfl ?_
      refine gb_getf (q := 57) (j := 0) (i := 0) dX4_writeMemory_54 rfl fl_X4_18 hB rfl rfl rfl rfl ?_
      refine g_iload_n (q := 58) dX4_writeMemory_57 rfl rfl ?_
      refine g_bipush (q := 60) (v := (nI 7)) dX4_writeMemory_58 rfl (by decide) ?_
      refine g_iload_n (q := 61) dX4_writeMemory_60 rfl rfl ?_
      refine g_iaddN (q := 62) dX4_writeMemory_61 rfl ?_
      refine gb_callV (q := 65) (j := 0) (i := 4) dX4_writeMemory_62 rfl kv_X4_71 (c_get (x := 7 + i) (by omega) ((hB.1.at (j := 0) rfl).sub 4 rfl)) rfl (by decide) hB rfl rfl rfl rfl (bz_le rfl) (by decide) (by decide) (fun r g1 hQ => ?_)
      obtain ⟨rfl, hg⟩ := hQ
      have hg := hg.symm
      subst hg
      refine gb_iastN (q := 66) (j := 0) (i := 12) dX4_writeMemory_65 rfl hB rfl rfl rfl (by omega) (by decide) (fun g hB => ?_)
      refine g_iincN (q := 69) (c := 1) dX4_writeMemory_66 rfl (by decide) rfl rfl (by decide) ?_
      refine g_goto (q := 12) dX4_writeMemory_69 (by decide) ?_
      refine g_lvs (lv1 := [(3, .int (nI (i + 1))), (2, .int (nI (tW x))), (0, .ref o), (1, .int (nI p))]) ⟨rfl, rfl, rfl, rfl, trivial⟩ ?_
      refine ih (i + 1) _ (by omega) ?_
      rw [← s_wrS (v := fw (p * 11 + (7 + i))) (by rw [List.getElem?_eq_getElem (by omega)]; exact congrArg some (hx.2.2.2.2.2.2.2 i _ (List.getElem?_eq_getElem (by omega))).symm)]
      exact hB
  refine g_aload_n (q := 1) dX4_writeMemory_0 rfl rfl ?_
  refine gb_getf (q := 4) (j := 0) (i := 0) dX4_writeMemory_1 rfl fl_X4_18 hB rfl rfl rfl rfl ?_
  refine g_iload_n (q := 5) dX4_writeMemory_4 rfl rfl ?_
  refine g_iconst (q := 6) (v := (nI 4)) dX4_writeMemory_5 rfl (by decide) ?_
  refine gb_callV (q := 9) (j := 0) (i := 4) dX4_writeMemory_6 rfl kv_X4_71 (c_get (x := 4) (by omega) ((hB.1.at (j := 0) rfl).sub 4 rfl)) rfl (by decide) hB rfl rfl rfl rfl (bz_le rfl) (by decide) (by decide) (fun r g1 hQ => ?_)
  obtain ⟨rfl, hg⟩ := hQ
  have hg := hg.symm
  subst hg
  refine g_eqi (v := nI (tW x)) (hx.2.2.2.2.1) ?_
  refine g_istore_n (q := 10) rfl dX4_writeMemory_9 rfl (by decide) rfl ?_
  refine g_iconst (q := 11) (v := (nI 0)) dX4_writeMemory_10 rfl (by decide) ?_
  refine g_istore_n (q := 12) rfl dX4_writeMemory_11 rfl (by decide) rfl ?_
  refine g_lvs (lv1 := [(3, .int (nI 0)), (2, .int (nI (tW x))), (0, .ref o), (1, .int (nI p))]) ⟨rfl, rfl, rfl, rfl, trivial⟩ ?_
  exact K (tW x) 0 g (by omega) (by rw [s_wr0]; exact hB)
def v_wv (f : Nat → Int32) (n : Nat) (h : Nat → Int32) : Nat → (Nat → Int32)
  | 0 => f
  | i + 1 => upd (v_wv f n h i) (n * 11 + (7 + i)) (h i)
theorem v_wv_lo {f : Nat → Int32} {n : Nat} {h : Nat → Int32} : ∀ (i : Nat) {j : Nat}, j < n * 11 + 7 → v_wv f n h i j = f j
  | 0, _, _ => rfl
  | i + 1, j, hj => by rw [v_wv, upd_ne (by omega)]; exact v_wv_lo i hj
theorem v_wv_at {f : Nat → Int32} {n : Nat} {h : Nat → Int32} : ∀ (i j : Nat), j < i → v_wv f n h i (n * 11 + (7 + j)) = h j
  | 0, _, hj => absurd hj (Nat.not_lt_zero _)
  | i + 1, j, hj => by
    rw [v_wv]
    by_cases e : j = i
    · subst e; exact upd_eq
    · rw [upd_ne (by omega)]; exact v_wv_at i j (by omega)
theorem v_open_lo {f : Nat → Int32} {n k j : Nat} {tag rel ad wd tm : Int32} (h : j < n * 11) : v_open f n k tag rel ad wd tm j = f j := by
  unfold v_open
  rw [upd_ne (by omega), upd_ne (by omega), upd_ne (by omega), upd_ne (by omega), upd_ne (by omega), upd_ne (by omega), upd_ne (by omega)]
theorem s_tx_new {f : Nat → Int32} {n k : Nat} {tag rel : Int32} {ad wd tm off : Nat} {h : Nat → Int32} {i : Nat} {y : Tx} (hk : tK y = k) (ht : tag = tI y) (hr : rel = tB (tR y)) (ha : tA y = ad) (hw : tW y = wd) (hm : tM y = tm) (ho : tO y = off) (hv : ∀ (j : Nat) (v : Int32), (tV y)[j]? = some v → j < i ∧ h j = v) : s_tx (v_wv (upd (v_open f n k tag rel (nI ad) (nI wd) (nI tm)) (n * 11 + 6) (nI off)) n h i) n y := by
  refine ⟨?_, ?_, ?_, ?_, ?_, ?_, ?_, fun j v hj => ?_⟩
  · rw [v_wv_lo i (by omega), hk]; simp [v_open, upd]
  · rw [v_wv_lo i (by omega), ← ht]; simp [v_open, upd]
  · rw [v_wv_lo i (by omega), ← hr]; simp [v_open, upd]
  · rw [v_wv_lo i (by omega), ha]; simp [v_open, upd]
  · rw [v_wv_lo i (by omega), hw]; simp [v_open, upd]
  · rw [v_wv_lo i (by omega), hm]; simp [v_open, upd]
  · rw [v_wv_lo i (by omega), ho]; simp [upd]
  · obtain ⟨h1, h2⟩ := hv j v hj
    rw [v_wv_at i j h1]; exact h2
theorem tB01 (b : Bool) : tB b = 0 ∨ tB b = 1 := by cases b <;> simp [tB]
theorem tB_ne {b : Bool} {v : Int32} (hv : v = tB b) (h : v ≠ nI 1) : nI 0 = tB b := by
  subst hv; cases b
  · rfl
  · exact absurd rfl h
theorem tB_eq {b : Bool} {v : Int32} (hv : v = tB b) (h : v = nI 1) : nI 1 = tB b := by
  subst hv; exact h.symm
def s_tg (s wn cm wd : Nat → Int32) (T : Tg) : Prop := (∀ t, t < 8 → s t = nI (T.1 t) ∧ wn t = nI (T.2.1 t) ∧ cm t = nI (T.2.2.1 t) ∧ T.2.1 t ≤ 4 ∧ T.2.2.1 t < 16) ∧ ∀ i, i < 32 → wd i = T.2.2.2 i
theorem bz_or16 : ∀ m, m < 16 → ∀ j, j < 4 → nI m ||| (nI 1 <<< (nI j &&& 31)) = nI (m ||| 2 ^ j) ∧ m ||| 2 ^ j < 16 := by decide +kernel
theorem s_tg_sto {s wn cm wd : Nat → Int32} {T : Tg} {t j : Nat} {v : Int32} (h : s_tg s wn cm wd T) (ht : t < 8) (hj : j < 4) : s_tg s wn (upd cm t (cm t ||| (nI 1 <<< (nI j &&& 31)))) (upd wd (t * 4 + j) v) (T.1, T.2.1, va_up T.2.2.1 t (T.2.2.1 t ||| 2 ^ j), upd T.2.2.2 (t * 4 + j) v) := by
  refine ⟨fun u hu => ?_, fun i hi => ?_⟩
  · obtain ⟨h1, h2, h3, h4, h5⟩ := h.1 u hu
    by_cases e : u = t
    · subst e
      obtain ⟨b1, b2⟩ := bz_or16 _ h5 j hj
      refine ⟨h1, h2, ?_, h4, ?_⟩
      · rw [upd_eq, h3, b1]; simp [va_up]
      · simpa [va_up] using b2
    · refine ⟨h1, h2, ?_, h4, ?_⟩
      · rw [upd_ne e]; simpa [va_up, e] using h3
      · simpa [va_up, e] using h5
  · by_cases e : i = t * 4 + j
    · subst e; rw [upd_eq]; exact (upd_eq (f := T.2.2.2)).symm
    · rw [upd_ne e, h.2 i hi]; exact (upd_ne (f := T.2.2.2) e).symm
theorem s_stoS {t : Nat} {v : Int32} : ∀ (vs : List Int32) (i n : Nat) (T : Tg), vs[n]? = some v → s_sto t i (vs.take (n + 1)) T = ((s_sto t i (vs.take n) T).1, (s_sto t i (vs.take n) T).2.1, va_up (s_sto t i (vs.take n) T).2.2.1 t ((s_sto t i (vs.take n) T).2.2.1 t ||| 2 ^ (i + n)), upd (s_sto t i (vs.take n) T).2.2.2 (t * 4 + (i + n)) v)
  | [], i, n, T, h => by simp at h
  | a :: r, i, 0, T, h => by
    have : a = v := by simpa using h
    subst this
    simp [s_sto]
  | a :: r, i, n + 1, T, h => by
    have hr := s_stoS (t := t) r (i + 1) n (T.1, T.2.1, va_up T.2.2.1 t (T.2.2.1 t ||| 2 ^ i), upd T.2.2.2 (t * 4 + i) a) (by simpa using h)
    rw [List.take_succ_cons, List.take_succ_cons, s_sto, s_sto, hr]
    rw [show i + 1 + n = i + (n + 1) by omega]
theorem s_tg_cpl {s wn cm wd : Nat → Int32} {T : Tg} {t : Nat} (h : s_tg s wn cm wd T) (ht : t < 8) : s_tg (if v_pc (T.2.2.1 t) < T.2.1 t then s else upd s t (nI 2)) wn cm wd (s_cpl t T) := by
  by_cases e : v_pc (T.2.2.1 t) < T.2.1 t
  · unfold s_cpl
    rw [if_pos e, if_pos e]
    exact h
  · unfold s_cpl
    rw [if_neg e, if_neg e]
    refine ⟨fun u hu => ?_, h.2⟩
    obtain ⟨h1, h2⟩ := h.1 u hu
    refine ⟨?_, h2⟩
    by_cases eu : u = t
    · subst eu; rw [upd_eq]; simp [va_up]
    · rw [upd_ne eu, h1]; simp [va_up, eu]
theorem bz_minI {a b : Nat} (ha : a < 2 ^ 31) (hb : b < 2 ^ 31) : (if nI b < nI a then nI b else nI a) = nI (min a b) := by
  by_cases h : b < a
  · rw [if_pos ((nI_ltI hb ha).mpr h), Nat.min_eq_right (by omega)]
  · rw [if_neg (fun e => h ((nI_ltI hb ha).mp e)), Nat.min_eq_left (by omega)]

set_option maxRecDepth 20000 in
set_option maxHeartbeats 1000000 in
theorem c_addCompletion {l : Launch} {E : bz_E} {L : List Nat} {g : Nat → va_E} {o p off wc now : Nat} {x : Tx} {Q : List Tx} {fq cq fw cw s wn cm wd mem : Nat → Int32} {zw a b c : Int32} (hp : p < 32) (hx : s_tx fw p x) (hk : tK x ≠ 0) (hxo : s_ok x) (hoff : off + wc ≤ tW x) (hQo : s_lok Q) (hl : Q.length < 32) (hs : s_ln fq cq Q) (hH : bz_H L g o (b_Port E o fq cq (nI Q.length) fw cw zw s wn cm wd mem a b c)) : bz_K l E mX4_addCompletion 2 [.ref o, .int (nI p), .int (nI off), .int (nI wc), .int (nI now)] L g (fun r g1 => r = none ∧ ∃ f1 c1 : Nat → Int32, bz_B L g g1 [(o, (b_Port E o f1 c1 (nI (Q.length + 1)) fw cw zw s wn cm wd mem a b c))] ∧ s_ln f1 c1 (Q ++ [s_cmp mem x off wc now])) := by
  refine bz_K.of (by decide) (bz_le rfl) (fun sz => ?_)
  have hB := bz_B.rf (bz_W.one hH)
  show bz_G _ _ _ _ _ _ _ _ _ _ _ _ 0 [(0, .ref o), (1, .int (nI p)), (2, .int (nI off)), (3, .int (nI wc)), (4, .int (nI now))] []
  obtain ⟨x1, x2, x3, x4, -⟩ := id hxo
  have hfin : ∀ i, i = wc → s_ln (v_wv (upd (v_open fq Q.length 3 (fw (p * 11 + 1)) (tB (tR x)) (nI (tA x + off)) (nI wc) (nI now)) (Q.length * 11 + 6) (nI off)) Q.length (fun j => mem (tA x + off + j)) i) (upd cq 3 (cq 3 + nI 1)) (Q ++ [s_cmp mem x off wc now]) := by
    intro i hi
    subst hi
    refine s_ln_app hQo.1 hs (s_tx_new rfl (hx.2.1.trans (by rw [tI, if_neg hk]; rfl)) rfl rfl rfl rfl rfl (fun j v hj => ?_)) (fun j hj => ?_) (fun k hk4 => ?_)
    · simp only [s_cmp, tV] at hj
      rw [List.getElem?_map] at hj
      have hjl : j < i := by
        rcases Nat.lt_or_ge j i with h | h
        · exact h
        · rw [List.getElem?_eq_none (by simpa using h)] at hj; cases hj
      rw [List.getElem?_range hjl] at hj
      exact ⟨hjl, by simpa using hj⟩
    · rw [v_wv_lo _ (by omega), upd_ne (by omega), v_open_lo hj]
    · by_cases e : k = 3
      · subst e; rw [upd_eq]; rfl
      · rw [upd_ne e, show tK (s_cmp mem x off i now) = 3 from rfl, if_neg (fun h => e h.symm)]; exact (Int32.add_zero _).symm
  have K : ∀ (m i : Nat) (g1 : Nat → va_E), i + m = wc → bz_B L g g1 [(o, (b_Port E o (v_wv (upd (v_open fq Q.length 3 (fw (p * 11 + 1)) (tB (tR x)) (nI (tA x + off)) (nI wc) (nI now)) (Q.length * 11 + 6) (nI off)) Q.length (fun j => mem (tA x + off + j)) i) (upd cq 3 (cq 3 + nI 1)) (nI (Q.length + 1)) fw cw zw s wn cm wd mem a b c))] → bz_G l E mX4_addCompletion (bz_R 2 0 0) L sz (bz_Fm E L sz (fun r g1 => r = none ∧ ∃ f1 c1 : Nat → Int32, bz_B L g g1 [(o, (b_Port E o f1 c1 (nI (Q.length + 1)) fw cw zw s wn cm wd mem a b c))] ∧ s_ln f1 c1 (Q ++ [s_cmp mem x off wc now]))) sz 0 0 L g1 78 [(9, .int (nI i)), (8, .int (nI Q.length)), (6, .int (fw (p * 11 + 1))), (5, .int (nI (tA x + off))), (0, .ref o), (1, .int (nI p)), (2, .int (nI off)), (3, .int (nI wc)), (4, .int (nI now))] [] := by
    intro m
    induction m with
    | zero =>
      intro i g hi hB
      refine g_iload (q := 80) dX4_addCompletion_78 rfl rfl ?_
      refine g_iload_n (q := 81) dX4_addCompletion_80 rfl rfl ?_
      refine g_icmpN_ge (q := 84) (t := 122) dX4_addCompletion_81 rfl (by decide) (by omega) (by omega) (fun _ => ?_) (fun c => absurd c (by omega))
      exact g_vret dX4_addCompletion_122 rfl (⟨rfl, _, _, hB, hfin i (by omega)⟩)
    | succ m ih =>
      intro i g hi hB
      refine g_iload (q := 80) dX4_addCompletion_78 rfl rfl ?_
      refine g_iload_n (q := 81) dX4_addCompletion_80 rfl rfl ?_
      refine g_icmpN_ge (q := 84) (t := 122) dX4_addCompletion_81 rfl (by decide) (by omega) (by omega) (fun c => absurd c (by omega)) (fun _ => ?_)
      refine g_iload (q := 86) dX4_addCompletion_84 rfl rfl ?_
      refine g_iconst (q := 87) (v := (nI 4)) dX4_addCompletion_86 rfl (by decide) ?_
      refine g_icmpN_ge (q := 90) (t := 122) dX4_addCompletion_87 rfl (by decide) (by omega) (by omega) (fun c => absurd c (by omega)) (fun _ => ?_)
      refine g_aload_n (q := 91) dX4_addCompletion_90 rfl rfl ?_
      refine gb_getf (q := 94) (j := 0) (i := 0) dX4_addCompletion_91 rfl fl_X4_12 hB rfl rfl rfl rfl ?_
      refine g_iload (q := 96) dX4_addCompletion_94 rfl rfl ?_
      refine g_bipush (q := 98) (v := (nI 7)) dX4_addCompletion_96 rfl (by decide) ?_
      refine g_iload (q := 100) dX4_addCompletion_98 rfl rfl ?_
      refine g_iaddN (q := 101) dX4_addCompletion_100 rfl ?_
      refine g_aload_n (q := 102) dX4_addCompletion_101 rfl rfl ?_
      refine gb_getf (q := 105) (j := 0) (i := 0) dX4_addCompletion_102 rfl fl_X4_28 hB rfl rfl rfl rfl ?_
      refine g_iload (q := 107) dX4_addCompletion_105 rfl rfl ?_
      refine g_iload (q := 109) dX4_addCompletion_107 rfl rfl ?_
      refine g_iaddN (q := 110) dX4_addCompletion_109 rfl ?_
      refine g_callN (q := 113) dX4_addCompletion_110 rfl kn_X4_41 rfl (c_cellOf (i := tA x + off + i) (by omega) (by decide) ((hB.1.at (j := 0) rfl).sub 12 rfl)) (by decide) rfl (bz_le rfl) (by decide) (by decide) (fun r g1 hQ => ?_)
      obtain ⟨rfl, hg⟩ := hQ
      have hg := hg.symm
      subst hg
      refine gb_callV (q := 116) (j := 0) (i := 1) dX4_addCompletion_113 rfl kv_X4_110 (c_put (p := Q.length) (x := 7 + i) (by omega) ((hB.1.at (j := 0) rfl).sub 1 rfl)) rfl (by decide) hB rfl rfl rfl rfl (bz_le rfl) (by decide) (by decide) (fun r g1 hQ => ?_)
      obtain ⟨rfl, h1⟩ := hQ
      have hB := hB.sp (j := 0) rfl 1 rfl h1 (bz_le rfl)
      refine g_iincN (q := 119) (c := 1) dX4_addCompletion_116 rfl (by decide) rfl rfl (by decide) ?_
      refine g_goto (q := 78) dX4_addCompletion_119 (by decide) ?_
      refine g_lvs (lv1 := [(9, .int (nI (i + 1))), (8, .int (nI Q.length)), (6, .int (fw (p * 11 + 1))), (5, .int (nI (tA x + off))), (0, .ref o), (1, .int (nI p)), (2, .int (nI off)), (3, .int (nI wc)), (4, .int (nI now))]) ⟨rfl, rfl, rfl, rfl, rfl, rfl, rfl, rfl, rfl, trivial⟩ ?_
      exact ih (i + 1) _ (by omega) hB
  have J : bz_G l E mX4_addCompletion (bz_R 2 0 0) L sz (bz_Fm E L sz (fun r g1 => r = none ∧ ∃ f1 c1 : Nat → Int32, bz_B L g g1 [(o, (b_Port E o f1 c1 (nI (Q.length + 1)) fw cw zw s wn cm wd mem a b c))] ∧ s_ln f1 c1 (Q ++ [s_cmp mem x off wc now]))) sz 0 0 L g 42 [(6, .int (fw (p * 11 + 1))), (5, .int (nI (tA x + off))), (0, .ref o), (1, .int (nI p)), (2, .int (nI off)), (3, .int (nI wc)), (4, .int (nI now))] [.int (tB (tR x))] := by
    refine g_istore (q := 44) dX4_addCompletion_42 rfl (by decide) rfl ?_
    refine g_aload_n (q := 45) dX4_addCompletion_44 rfl rfl ?_
    refine gb_getf (q := 48) (j := 0) (i := 0) dX4_addCompletion_45 rfl fl_X4_12 hB rfl rfl rfl rfl ?_
    refine g_iconst (q := 49) (v := (nI 3)) dX4_addCompletion_48 rfl (by decide) ?_
    refine g_iload (q := 51) dX4_addCompletion_49 rfl rfl ?_
    refine g_iload (q := 53) dX4_addCompletion_51 rfl rfl ?_
    refine g_iload (q := 55) dX4_addCompletion_53 rfl rfl ?_
    refine g_iload_n (q := 56) dX4_addCompletion_55 rfl rfl ?_
    refine g_iload (q := 58) dX4_addCompletion_56 rfl rfl ?_
    refine gb_callV (q := 61) (j := 0) (i := 1) dX4_addCompletion_58 rfl kv_X4_114 (c_open (n := Q.length) (k := 3) hl (by decide) (tB01 _) ((hB.1.at (j := 0) rfl).sub 1 rfl)) rfl (by decide) hB rfl rfl rfl rfl (bz_le rfl) (by decide) (by decide) (fun r g1 hQ => ?_)
    obtain ⟨rfl, h1⟩ := hQ
    have hB := hB.sp (j := 0) rfl 1 rfl h1 (bz_le rfl)
    refine g_istore (q := 63) dX4_addCompletion_61 rfl (by decide) rfl ?_
    refine g_aload_n (q := 64) dX4_addCompletion_63 rfl rfl ?_
    refine gb_getf (q := 67) (j := 0) (i := 0) dX4_addCompletion_64 rfl fl_X4_12 hB rfl rfl rfl rfl ?_
    refine g_iload (q := 69) dX4_addCompletion_67 rfl rfl ?_
    refine g_bipush (q := 71) (v := (nI 6)) dX4_addCompletion_69 rfl (by decide) ?_
    refine g_iload_n (q := 72) dX4_addCompletion_71 rfl rfl ?_
    refine gb_callV (q := 75) (j := 0) (i := 1) dX4_addCompletion_72 rfl kv_X4_110 (c_put (p := Q.length) (x := 6) (by omega) ((hB.1.at (j := 0) rfl).sub 1 rfl)) rfl (by decide) hB rfl rfl rfl rfl (bz_le rfl) (by decide) (by decide) (fun r g1 hQ => ?_)
    obtain ⟨rfl, h1⟩ := hQ
    have hB := hB.sp (j := 0) rfl 1 rfl h1 (bz_le rfl)
    refine g_iconst (q := 76) (v := (nI 0)) dX4_addCompletion_75 rfl (by decide) ?_
    refine g_istore (q := 78) dX4_addCompletion_76 rfl (by decide) rfl ?_
    refine g_lvs (lv1 := [(9, .int (nI 0)), (8, .int (nI Q.length)), (6, .int (fw (p * 11 + 1))), (5, .int (nI (tA x + off))), (0, .ref o), (1, .int (nI p)), (2, .int (nI off)), (3, .int (nI wc)), (4, .int (nI now))]) ⟨rfl, rfl, rfl, rfl, rfl, rfl, rfl, rfl, rfl, trivial⟩ ?_
    exact K wc 0 _ (by omega) hB
  refine g_aload_n (q := 1) dX4_addCompletion_0 rfl rfl ?_
  refine gb_getf (q := 4) (j := 0) (i := 0) dX4_addCompletion_1 rfl fl_X4_18 hB rfl rfl rfl rfl ?_
  refine g_iload_n (q := 5) dX4_addCompletion_4 rfl rfl ?_
  refine g_iconst (q := 6) (v := (nI 3)) dX4_addCompletion_5 rfl (by decide) ?_
  refine gb_callV (q := 9) (j := 0) (i := 4) dX4_addCompletion_6 rfl kv_X4_71 (c_get (x := 3) (by omega) ((hB.1.at (j := 0) rfl).sub 4 rfl)) rfl (by decide) hB rfl rfl rfl rfl (bz_le rfl) (by decide) (by decide) (fun r g1 hQ => ?_)
  obtain ⟨rfl, hg⟩ := hQ
  have hg := hg.symm
  subst hg
  refine g_eqi (v := nI (tA x)) (hx.2.2.2.1) ?_
  refine g_iload_n (q := 10) dX4_addCompletion_9 rfl rfl ?_
  refine g_iaddN (q := 11) dX4_addCompletion_10 rfl ?_
  refine g_istore (q := 13) dX4_addCompletion_11 rfl (by decide) rfl ?_
  refine g_aload_n (q := 14) dX4_addCompletion_13 rfl rfl ?_
  refine gb_getf (q := 17) (j := 0) (i := 0) dX4_addCompletion_14 rfl fl_X4_18 hB rfl rfl rfl rfl ?_
  refine g_iload_n (q := 18) dX4_addCompletion_17 rfl rfl ?_
  refine g_iconst (q := 19) (v := (nI 1)) dX4_addCompletion_18 rfl (by decide) ?_
  refine gb_callV (q := 22) (j := 0) (i := 4) dX4_addCompletion_19 rfl kv_X4_71 (c_get (x := 1) (by omega) ((hB.1.at (j := 0) rfl).sub 4 rfl)) rfl (by decide) hB rfl rfl rfl rfl (bz_le rfl) (by decide) (by decide) (fun r g1 hQ => ?_)
  obtain ⟨rfl, hg⟩ := hQ
  have hg := hg.symm
  subst hg
  refine g_istore (q := 24) dX4_addCompletion_22 rfl (by decide) rfl ?_
  refine g_aload_n (q := 25) dX4_addCompletion_24 rfl rfl ?_
  refine gb_getf (q := 28) (j := 0) (i := 0) dX4_addCompletion_25 rfl fl_X4_18 hB rfl rfl rfl rfl ?_
  refine g_iload_n (q := 29) dX4_addCompletion_28 rfl rfl ?_
  refine g_iconst (q := 30) (v := (nI 2)) dX4_addCompletion_29 rfl (by decide) ?_
  refine gb_callV (q := 33) (j := 0) (i := 4) dX4_addCompletion_30 rfl kv_X4_71 (c_get (x := 2) (by omega) ((hB.1.at (j := 0) rfl).sub 4 rfl)) rfl (by decide) hB rfl rfl rfl rfl (bz_le rfl) (by decide) (by decide) (fun r g1 hQ => ?_)
  obtain ⟨rfl, hg⟩ := hQ
  have hg := hg.symm
  subst hg
  refine g_iconst (q := 34) (v := (nI 1)) dX4_addCompletion_33 rfl (by decide) ?_
  refine g_icmp_ne (q := 37) (t := 41) dX4_addCompletion_34 rfl (by decide) (fun c_34 => ?_) (fun c_34 => ?_)
  · refine g_iconst (q := 42) (v := (nI 0)) dX4_addCompletion_41 rfl (by decide) ?_
    refine g_lvs (lv1 := [(6, .int (fw (p * 11 + 1))), (5, .int (nI (tA x + off))), (0, .ref o), (1, .int (nI p)), (2, .int (nI off)), (3, .int (nI wc)), (4, .int (nI now))]) ⟨rfl, rfl, rfl, rfl, rfl, rfl, rfl, trivial⟩ ?_
    refine g_eqi (v := tB (tR x)) (by first | exact tB_ne hx.2.2.1 c_34 | exact tB_eq hx.2.2.1 c_34) ?_
    exact J
  · refine g_iconst (q := 38) (v := (nI 1)) dX4_addCompletion_37 rfl (by decide) ?_
    refine g_goto (q := 42) dX4_addCompletion_38 (by decide) ?_
    refine g_lvs (lv1 := [(6, .int (fw (p * 11 + 1))), (5, .int (nI (tA x + off))), (0, .ref o), (1, .int (nI p)), (2, .int (nI off)), (3, .int (nI wc)), (4, .int (nI now))]) ⟨rfl, rfl, rfl, rfl, rfl, rfl, rfl, trivial⟩ ?_
    refine g_eqi (v := tB (tR x)) (by first | exact tB_ne hx.2.2.1 c_34 | exact tB_eq hx.2.2.1 c_34) ?_
    exact J
set_option maxRecDepth 20000 in
set_option maxHeartbeats 1000000 in
theorem c_storeCompletion {l : Launch} {E : bz_E} {L : List Nat} {g : Nat → va_E} {o p : Nat} {x : Tx} {T : Tg} {fq cq fw cw s wn cm wd mem : Nat → Int32} {zq zw a b c : Int32} (hp : p < 32) (hx : s_tx fw p x) (hk : tK x = 3) (hxo : s_ok x) (hT : s_tg s wn cm wd T) (hH : bz_H L g o (b_Port E o fq cq zq fw cw zw s wn cm wd mem a b c)) : bz_K l E mX4_storeCompletion 2 [.ref o, .int (nI p)] L g (fun r g1 => r = none ∧ ∃ s1 cm1 wd1 : Nat → Int32, bz_B L g g1 [(o, (b_Port E o fq cq zq fw cw zw s1 wn cm1 wd1 mem a b c))] ∧ s_tg s1 wn cm1 wd1 (s_cpl (tT x) (s_sto (tT x) (tO x) (tV x) T))) := by
  refine bz_K.of (by decide) (bz_le rfl) (fun sz => ?_)
  have hB := bz_B.rf (bz_W.one hH)
  show bz_G _ _ _ _ _ _ _ _ _ _ _ _ 0 [(0, .ref o), (1, .int (nI p))] []
  obtain ⟨x1, x2, x3, x4, x5, x6, x7, x8, x9, x10⟩ := id hxo
  obtain ⟨y1, y2⟩ := x9 hk
  have K : ∀ (m i : Nat) (g1 : Nat → va_E) (cm wd : Nat → Int32), i + m = tW x → bz_B L g g1 [(o, (b_Port E o fq cq zq fw cw zw s wn cm wd mem a b c))] → s_tg s wn cm wd (s_sto (tT x) (tO x) ((tV x).take i) T) → bz_G l E mX4_storeCompletion (bz_R 2 0 0) L sz (bz_Fm E L sz (fun r g1 => r = none ∧ ∃ s1 cm1 wd1 : Nat → Int32, bz_B L g g1 [(o, (b_Port E o fq cq zq fw cw zw s1 wn cm1 wd1 mem a b c))] ∧ s_tg s1 wn cm1 wd1 (s_cpl (tT x) (s_sto (tT x) (tO x) (tV x) T)))) sz 0 0 L g1 35 [(5, .int (nI i)), (4, .int (nI (tW x))), (3, .int (nI (tO x))), (2, .int (nI (tT x))), (0, .ref o), (1, .int (nI p))] [] := by
    intro m
    induction m with
    | zero =>
      intro i g cm wd hi hB hT
      refine g_iload (q := 37) dX4_storeCompletion_35 rfl rfl ?_
      refine g_iload (q := 39) dX4_storeCompletion_37 rfl rfl ?_
      refine g_icmpN_ge (q := 42) (t := 79) dX4_storeCompletion_39 rfl (by decide) (by omega) (by omega) (fun _ => ?_) (fun c => absurd c (by omega))
      rw [List.take_of_length_le (by omega)] at hT
      obtain ⟨h1, h2, h3, h4, h5⟩ := hT.1 (tT x) x2
      refine g_aload_n (q := 80) dX4_storeCompletion_79 rfl rfl ?_
      refine gb_getf (q := 83) (j := 0) (i := 0) dX4_storeCompletion_80 rfl fl_X4_24 hB rfl rfl rfl rfl ?_
      refine g_iload_n (q := 84) dX4_storeCompletion_83 rfl rfl ?_
      refine gb_callV (q := 87) (j := 0) (i := 7) dX4_storeCompletion_84 rfl kv_X4_121 (c_complete (t := tT x) x2 h5 h3 (by omega) h2 ((hB.1.at (j := 0) rfl).sub 7 rfl)) rfl (by decide) hB rfl rfl rfl rfl (bz_le rfl) (by decide) (by decide) (fun r g1 hQ => ?_)
      obtain ⟨rfl, h1⟩ := hQ
      have hB := hB.sp (j := 0) rfl 7 rfl h1 (bz_le rfl)
      exact g_vret dX4_storeCompletion_87 rfl (⟨rfl, _, _, _, hB, s_tg_cpl hT x2⟩)
    | succ m ih =>
      intro i g cm wd hi hB hT
      refine g_iload (q := 37) dX4_storeCompletion_35 rfl rfl ?_
      refine g_iload (q := 39) dX4_storeCompletion_37 rfl rfl ?_
      refine g_icmpN_ge (q := 42) (t := 79) dX4_storeCompletion_39 rfl (by decide) (by omega) (by omega) (fun c => absurd c (by omega)) (fun _ => ?_)
      refine g_iload (q := 44) dX4_storeCompletion_42 rfl rfl ?_
      refine g_iconst (q := 45) (v := (nI 4)) dX4_storeCompletion_44 rfl (by decide) ?_
      refine g_icmpN_ge (q := 48) (t := 79) dX4_storeCompletion_45 rfl (by decide) (by omega) (by omega) (fun c => absurd c (by omega)) (fun _ => ?_)
      refine g_aload_n (q := 49) dX4_storeCompletion_48 rfl rfl ?_
      refine gb_getf (q := 52) (j := 0) (i := 0) dX4_storeCompletion_49 rfl fl_X4_24 hB rfl rfl rfl rfl ?_
      refine g_iload_n (q := 53) dX4_storeCompletion_52 rfl rfl ?_
      refine g_iload_n (q := 54) dX4_storeCompletion_53 rfl rfl ?_
      refine g_iload (q := 56) dX4_storeCompletion_54 rfl rfl ?_
      refine g_iaddN (q := 57) dX4_storeCompletion_56 rfl ?_
      refine g_aload_n (q := 58) dX4_storeCompletion_57 rfl rfl ?_
      refine gb_getf (q := 61) (j := 0) (i := 0) dX4_storeCompletion_58 rfl fl_X4_18 hB rfl rfl rfl rfl ?_
      refine g_iload_n (q := 62) dX4_storeCompletion_61 rfl rfl ?_
      refine g_bipush (q := 64) (v := (nI 7)) dX4_storeCompletion_62 rfl (by decide) ?_
      refine g_iload (q := 66) dX4_storeCompletion_64 rfl rfl ?_
      refine g_iaddN (q := 67) dX4_storeCompletion_66 rfl ?_
      refine gb_callV (q := 70) (j := 0) (i := 4) dX4_storeCompletion_67 rfl kv_X4_71 (c_get (x := 7 + i) (by omega) ((hB.1.at (j := 0) rfl).sub 4 rfl)) rfl (by decide) hB rfl rfl rfl rfl (bz_le rfl) (by decide) (by decide) (fun r g1 hQ => ?_)
      obtain ⟨rfl, hg⟩ := hQ
      have hg := hg.symm
      subst hg
      refine gb_callV (q := 73) (j := 0) (i := 7) dX4_storeCompletion_70 rfl kv_X4_118 (c_store (t := tT x) (x := tO x + i) x2 (by omega) ((hB.1.at (j := 0) rfl).sub 7 rfl)) rfl (by decide) hB rfl rfl rfl rfl (bz_le rfl) (by decide) (by decide) (fun r g1 hQ => ?_)
      obtain ⟨rfl, h1⟩ := hQ
      have hB := hB.sp (j := 0) rfl 7 rfl h1 (bz_le rfl)
      refine g_iincN (q := 76) (c := 1) dX4_storeCompletion_73 rfl (by decide) rfl rfl (by decide) ?_
      refine g_goto (q := 35) dX4_storeCompletion_76 (by decide) ?_
      refine g_lvs (lv1 := [(5, .int (nI (i + 1))), (4, .int (nI (tW x))), (3, .int (nI (tO x))), (2, .int (nI (tT x))), (0, .ref o), (1, .int (nI p))]) ⟨rfl, rfl, rfl, rfl, rfl, rfl, trivial⟩ ?_
      refine ih (i + 1) _ _ _ (by omega) hB ?_
      rw [s_stoS (v := fw (p * 11 + (7 + i))) (tV x) (tO x) i T (by rw [List.getElem?_eq_getElem (by omega)]; exact congrArg some (hx.2.2.2.2.2.2.2 i _ (List.getElem?_eq_getElem (by omega))).symm)]
      exact s_tg_sto hT x2 (by omega)
  refine g_aload_n (q := 1) dX4_storeCompletion_0 rfl rfl ?_
  refine gb_getf (q := 4) (j := 0) (i := 0) dX4_storeCompletion_1 rfl fl_X4_18 hB rfl rfl rfl rfl ?_
  refine g_iload_n (q := 5) dX4_storeCompletion_4 rfl rfl ?_
  refine g_iconst (q := 6) (v := (nI 1)) dX4_storeCompletion_5 rfl (by decide) ?_
  refine gb_callV (q := 9) (j := 0) (i := 4) dX4_storeCompletion_6 rfl kv_X4_71 (c_get (x := 1) (by omega) ((hB.1.at (j := 0) rfl).sub 4 rfl)) rfl (by decide) hB rfl rfl rfl rfl (bz_le rfl) (by decide) (by decide) (fun r g1 hQ => ?_)
  obtain ⟨rfl, hg⟩ := hQ
  have hg := hg.symm
  subst hg
  refine g_eqi (v := nI (tT x)) (hx.2.1.trans (by rw [tI, if_neg (by omega)])) ?_
  refine g_istore_n (q := 10) rfl dX4_storeCompletion_9 rfl (by decide) rfl ?_
  refine g_aload_n (q := 11) dX4_storeCompletion_10 rfl rfl ?_
  refine gb_getf (q := 14) (j := 0) (i := 0) dX4_storeCompletion_11 rfl fl_X4_18 hB rfl rfl rfl rfl ?_
  refine g_iload_n (q := 15) dX4_storeCompletion_14 rfl rfl ?_
  refine g_bipush (q := 17) (v := (nI 6)) dX4_storeCompletion_15 rfl (by decide) ?_
  refine gb_callV (q := 20) (j := 0) (i := 4) dX4_storeCompletion_17 rfl kv_X4_71 (c_get (x := 6) (by omega) ((hB.1.at (j := 0) rfl).sub 4 rfl)) rfl (by decide) hB rfl rfl rfl rfl (bz_le rfl) (by decide) (by decide) (fun r g1 hQ => ?_)
  obtain ⟨rfl, hg⟩ := hQ
  have hg := hg.symm
  subst hg
  refine g_eqi (v := nI (tO x)) (hx.2.2.2.2.2.2.1) ?_
  refine g_istore_n (q := 21) rfl dX4_storeCompletion_20 rfl (by decide) rfl ?_
  refine g_aload_n (q := 22) dX4_storeCompletion_21 rfl rfl ?_
  refine gb_getf (q := 25) (j := 0) (i := 0) dX4_storeCompletion_22 rfl fl_X4_18 hB rfl rfl rfl rfl ?_
  refine g_iload_n (q := 26) dX4_storeCompletion_25 rfl rfl ?_
  refine g_iconst (q := 27) (v := (nI 4)) dX4_storeCompletion_26 rfl (by decide) ?_
  refine gb_callV (q := 30) (j := 0) (i := 4) dX4_storeCompletion_27 rfl kv_X4_71 (c_get (x := 4) (by omega) ((hB.1.at (j := 0) rfl).sub 4 rfl)) rfl (by decide) hB rfl rfl rfl rfl (bz_le rfl) (by decide) (by decide) (fun r g1 hQ => ?_)
  obtain ⟨rfl, hg⟩ := hQ
  have hg := hg.symm
  subst hg
  refine g_eqi (v := nI (tW x)) (hx.2.2.2.2.1) ?_
  refine g_istore (q := 32) dX4_storeCompletion_30 rfl (by decide) rfl ?_
  refine g_iconst (q := 33) (v := (nI 0)) dX4_storeCompletion_32 rfl (by decide) ?_
  refine g_istore (q := 35) dX4_storeCompletion_33 rfl (by decide) rfl ?_
  refine g_lvs (lv1 := [(5, .int (nI 0)), (4, .int (nI (tW x))), (3, .int (nI (tO x))), (2, .int (nI (tT x))), (0, .ref o), (1, .int (nI p))]) ⟨rfl, rfl, rfl, rfl, rfl, rfl, trivial⟩ ?_
  exact K (tW x) 0 g cm wd (by omega) hB (by simpa [s_sto] using hT)
