/-! class Sum: a latency in postfix order -/
abbrev b_Sum (E : bz_E) (o : Nat) (v it : Nat → Int32) (z : Int32) : List va_E := [.inr (6, [.ref (o + 1), .ref (o + 2), .int z]), .inl (E.1.1 21, 16, .inl v), .inl (E.1.1 21, 600, .inl it)]
def e_nm (i k a w t : Int32) : Int32 := if i = -1 then k else if i = -2 then a else if i = -3 then w else t
def e_op (i x y : Int32) : Int32 := if i = -43 then x + y else if i = -45 then x - y else if i = -42 then x * y else if i = -47 then (if y = 0 then 0 else x / y) else (if y = 0 then 0 else x - x / y * y)
def e_isop (i : Int32) : Prop := i = -43 ∨ i = -45 ∨ i = -42 ∨ i = -47 ∨ i = -37
def e_isnm (i : Int32) : Prop := i = -1 ∨ i = -2 ∨ i = -3 ∨ i = -4
/-- a sum in postfix order whose stack stays between 1 and 16; h values lie there already -/
def e_ok : List Int32 → Nat → Prop
  | [], h => h = 1
  | i :: r, h => (e_isop i ∧ 2 ≤ h ∧ e_ok r (h - 1)) ∨ ((e_isnm i ∨ ∃ n, n < 10000 ∧ i = nI n) ∧ h < 16 ∧ e_ok r (h + 1))
def e_st (k a w t i : Int32) (s : List Int32) : List Int32 := if i ≤ -37 then (match s with | y :: x :: r => e_op i x y :: r | r => r) else (if i < 0 then e_nm i k a w t else i) :: s
def e_run (k a w t : Int32) : List Int32 → List Int32 → List Int32
  | [], s => s
  | i :: r, s => e_run k a w t r (e_st k a w t i s)
def e_val (l : List Int32) (k a w t : Int32) : Int32 := (e_run k a w t l []).headD 0

set_option maxRecDepth 20000 in
set_option maxHeartbeats 1000000 in
theorem c_named {l : Launch} {E : bz_E} {L : List Nat} {g : Nat → va_E} {i k a w t : Int32} (hi : e_isnm i) : bz_K l E mX6_named 0 [.int i, .int k, .int a, .int w, .int t] L g (fun r g1 => r = some (.int (e_nm i k a w t)) ∧ g1 = g) := by
  refine bz_K.of (by decide) (bz_le rfl) (fun sz => ?_)
  show bz_G _ _ _ _ _ _ _ _ _ _ _ _ 0 [(0, .int i), (1, .int k), (2, .int a), (3, .int w), (4, .int t)] []
  rcases hi with rfl | rfl | rfl | rfl
  · refine g_iload_n (q := 1) dX6_named_0 rfl rfl ?_
    refine g_tableIn (t := 28) dX6_named_1 (by decide) (by decide) rfl (by decide) ?_
    refine g_iload_n (q := 29) dX6_named_28 rfl rfl ?_
    exact g_iret dX6_named_29 rfl (⟨rfl, rfl⟩)
  · refine g_iload_n (q := 1) dX6_named_0 rfl rfl ?_
    refine g_tableIn (t := 30) dX6_named_1 (by decide) (by decide) rfl (by decide) ?_
    refine g_iload_n (q := 31) dX6_named_30 rfl rfl ?_
    exact g_iret dX6_named_31 rfl (⟨rfl, rfl⟩)
  · refine g_iload_n (q := 1) dX6_named_0 rfl rfl ?_
    refine g_tableIn (t := 32) dX6_named_1 (by decide) (by decide) rfl (by decide) ?_
    refine g_iload_n (q := 33) dX6_named_32 rfl rfl ?_
    exact g_iret dX6_named_33 rfl (⟨rfl, rfl⟩)
  · refine g_iload_n (q := 1) dX6_named_0 rfl rfl ?_
    refine g_tableOut (t := 34) dX6_named_1 (by decide) (by decide) ?_
    refine g_iload (q := 36) dX6_named_34 rfl rfl ?_
    exact g_iret dX6_named_36 rfl (⟨rfl, rfl⟩)
set_option maxRecDepth 20000 in
set_option maxHeartbeats 1000000 in
theorem c_combine {l : Launch} {E : bz_E} {L : List Nat} {g : Nat → va_E} {i x y : Int32} (hi : e_isop i) : bz_K l E mX6_combine 0 [.int (-i), .int x, .int y] L g (fun r g1 => r = some (.int (e_op i x y)) ∧ g1 = g) := by
  refine bz_K.of (by decide) (bz_le rfl) (fun sz => ?_)
  show bz_G _ _ _ _ _ _ _ _ _ _ _ _ 0 [(0, .int (-i)), (1, .int x), (2, .int y)] []
  rcases hi with rfl | rfl | rfl | rfl | rfl
  · refine g_iload_n (q := 1) dX6_combine_0 rfl rfl ?_
    refine g_tableIn (t := 40) dX6_combine_1 (by decide) (by decide) rfl (by decide) ?_
    refine g_iload_n (q := 41) dX6_combine_40 rfl rfl ?_
    refine g_iload_n (q := 42) dX6_combine_41 rfl rfl ?_
    refine g_iadd (q := 43) dX6_combine_42 rfl ?_
    exact g_iret dX6_combine_43 rfl (⟨by simp [e_op, *], rfl⟩)
  · refine g_iload_n (q := 1) dX6_combine_0 rfl rfl ?_
    refine g_tableIn (t := 44) dX6_combine_1 (by decide) (by decide) rfl (by decide) ?_
    refine g_iload_n (q := 45) dX6_combine_44 rfl rfl ?_
    refine g_iload_n (q := 46) dX6_combine_45 rfl rfl ?_
    refine g_isub (q := 47) dX6_combine_46 rfl ?_
    exact g_iret dX6_combine_47 rfl (⟨by simp [e_op, *], rfl⟩)
  · refine g_iload_n (q := 1) dX6_combine_0 rfl rfl ?_
    refine g_tableIn (t := 48) dX6_combine_1 (by decide) (by decide) rfl (by decide) ?_
    refine g_iload_n (q := 49) dX6_combine_48 rfl rfl ?_
    refine g_iload_n (q := 50) dX6_combine_49 rfl rfl ?_
    refine g_imul (q := 51) dX6_combine_50 rfl ?_
    exact g_iret dX6_combine_51 rfl (⟨by simp [e_op, *], rfl⟩)
  · refine g_iload_n (q := 1) dX6_combine_0 rfl rfl ?_
    refine g_tableIn (t := 52) dX6_combine_1 (by decide) (by decide) rfl (by decide) ?_
    refine g_iload_n (q := 53) dX6_combine_52 rfl rfl ?_
    refine g_if_ne (q := 56) (t := 60) dX6_combine_53 rfl (by decide) (fun c_53 => ?_) (fun c_53 => ?_)
    · refine g_iload_n (q := 61) dX6_combine_60 rfl rfl ?_
      refine g_iload_n (q := 62) dX6_combine_61 rfl rfl ?_
      refine g_idiv (q := 63) dX6_combine_62 rfl c_53 ?_
      exact g_iret dX6_combine_63 rfl (⟨by simp [e_op, *], rfl⟩)
    · refine g_iconst (q := 57) (v := 0) dX6_combine_56 rfl (by decide) ?_
      refine g_goto (q := 63) dX6_combine_57 (by decide) ?_
      exact g_iret dX6_combine_63 rfl (⟨by simp [e_op, *], rfl⟩)
  · refine g_iload_n (q := 1) dX6_combine_0 rfl rfl ?_
    refine g_tableOut (t := 64) dX6_combine_1 (by decide) (by decide) ?_
    refine g_iload_n (q := 65) dX6_combine_64 rfl rfl ?_
    refine g_if_ne (q := 68) (t := 72) dX6_combine_65 rfl (by decide) (fun c_65 => ?_) (fun c_65 => ?_)
    · refine g_iload_n (q := 73) dX6_combine_72 rfl rfl ?_
      refine g_iload_n (q := 74) dX6_combine_73 rfl rfl ?_
      refine g_irem (q := 75) dX6_combine_74 rfl c_65 ?_
      exact g_iret dX6_combine_75 rfl (⟨by simp [e_op, *], rfl⟩)
    · refine g_iconst (q := 69) (v := 0) dX6_combine_68 rfl (by decide) ?_
      refine g_goto (q := 75) dX6_combine_69 (by decide) ?_
      exact g_iret dX6_combine_75 rfl (⟨by simp [e_op, *], rfl⟩)
set_option maxRecDepth 20000 in
set_option maxHeartbeats 1000000 in
theorem c_sclear {l : Launch} {E : bz_E} {L : List Nat} {g : Nat → va_E} {o : Nat} {v it : Nat → Int32} {z : Int32} (hH : bz_H L g o (b_Sum E o v it z)) : bz_K l E mX6_clear 0 [.ref o] L g (fun r g1 => r = none ∧ bz_B L g g1 [(o, b_Sum E o v it (nI 0))]) := by
  refine bz_K.of (by decide) (bz_le rfl) (fun sz => ?_)
  have hB := bz_B.rf (bz_W.one hH)
  show bz_G _ _ _ _ _ _ _ _ _ _ _ _ 0 [(0, .ref o)] []
  refine g_aload_n (q := 1) dX6_clear_0 rfl rfl ?_
  refine g_iconst (q := 2) (v := (nI 0)) dX6_clear_1 rfl (by decide) ?_
  refine gb_putf (q := 5) (j := 0) (i := 0) dX6_clear_2 rfl fp_X6_18 hB rfl rfl rfl (bz_le rfl) rfl rfl (fun g hB => ?_)
  exact g_vret dX6_clear_5 rfl (⟨rfl, hB⟩)
set_option maxRecDepth 20000 in
set_option maxHeartbeats 1000000 in
theorem c_sadd {l : Launch} {E : bz_E} {L : List Nat} {g : Nat → va_E} {o n : Nat} {v it : Nat → Int32} {x : Int32} (hn : n < 600) (hH : bz_H L g o (b_Sum E o v it (nI n))) : bz_K l E mX6_add 0 [.ref o, .int x] L g (fun r g1 => r = none ∧ bz_B L g g1 [(o, b_Sum E o v (upd it n x) (nI (n + 1)))]) := by
  refine bz_K.of (by decide) (bz_le rfl) (fun sz => ?_)
  have hB := bz_B.rf (bz_W.one hH)
  show bz_G _ _ _ _ _ _ _ _ _ _ _ _ 0 [(0, .ref o), (1, .int x)] []
  refine g_aload_n (q := 1) dX6_add_0 rfl rfl ?_
  refine gb_getf (q := 4) (j := 0) (i := 0) dX6_add_1 rfl fl_X6_18 hB rfl rfl rfl rfl ?_
  refine g_ifN_lt (q := 7) (t := 39) dX6_add_4 rfl (by decide) (by omega) ?_
  refine g_aload_n (q := 8) dX6_add_7 rfl rfl ?_
  refine gb_getf (q := 11) (j := 0) (i := 0) dX6_add_8 rfl fl_X6_18 hB rfl rfl rfl rfl ?_
  refine g_aload_n (q := 12) dX6_add_11 rfl rfl ?_
  refine gb_getf (q := 15) (j := 0) (i := 0) dX6_add_12 rfl fl_X6_15 hB rfl rfl rfl rfl ?_
  refine gb_alen (q := 16) (j := 0) (i := 2) (t0 := 1) dX6_add_15 rfl hB rfl rfl rfl rfl ?_
  refine g_icmpN_ge (q := 19) (t := 39) dX6_add_16 rfl (by decide) (by omega) (by omega) (fun c => absurd c (by omega)) (fun _ => ?_)
  refine g_aload_n (q := 20) dX6_add_19 rfl rfl ?_
  refine gb_getf (q := 23) (j := 0) (i := 0) dX6_add_20 rfl fl_X6_15 hB rfl rfl rfl rfl ?_
  refine g_aload_n (q := 24) dX6_add_23 rfl rfl ?_
  refine gb_getf (q := 27) (j := 0) (i := 0) dX6_add_24 rfl fl_X6_18 hB rfl rfl rfl rfl ?_
  refine g_iload_n (q := 28) dX6_add_27 rfl rfl ?_
  refine gb_iastN (q := 29) (j := 0) (i := 2) dX6_add_28 rfl hB rfl rfl rfl (by omega) (by decide) (fun g hB => ?_)
  refine g_aload_n (q := 30) dX6_add_29 rfl rfl ?_
  refine g_dup (q := 31) dX6_add_30 rfl rfl ?_
  refine gb_getf (q := 34) (j := 0) (i := 0) dX6_add_31 rfl fl_X6_18 hB rfl rfl rfl rfl ?_
  refine g_iconst (q := 35) (v := (nI 1)) dX6_add_34 rfl (by decide) ?_
  refine g_iaddN (q := 36) dX6_add_35 rfl ?_
  refine gb_putf (q := 39) (j := 0) (i := 0) dX6_add_36 rfl fp_X6_18 hB rfl rfl rfl (bz_le rfl) rfl rfl (fun g hB => ?_)
  exact g_vret dX6_add_39 rfl (⟨rfl, hB⟩)
set_option maxRecDepth 20000 in
set_option maxHeartbeats 1000000 in
theorem c_setNumber {l : Launch} {E : bz_E} {L : List Nat} {g : Nat → va_E} {o : Nat} {v it : Nat → Int32} {z x : Int32} (hH : bz_H L g o (b_Sum E o v it z)) : bz_K l E mX6_setNumber 1 [.ref o, .int x] L g (fun r g1 => r = none ∧ bz_B L g g1 [(o, b_Sum E o v (upd it 0 x) (nI (0 + 1)))]) := by
  refine bz_K.of (by decide) (bz_le rfl) (fun sz => ?_)
  have hB := bz_B.rf (bz_W.one hH)
  show bz_G _ _ _ _ _ _ _ _ _ _ _ _ 0 [(0, .ref o), (1, .int x)] []
  refine g_aload_n (q := 1) dX6_setNumber_0 rfl rfl ?_
  refine gb_callV (q := 4) (j := 0) (i := 0) dX6_setNumber_1 rfl kv_X6_22 (c_sclear hH) rfl (by decide) hB rfl rfl rfl rfl (bz_le rfl) (by decide) (by decide) (fun r g1 hQ => ?_)
  obtain ⟨rfl, h1⟩ := hQ
  have hB := hB.sp (j := 0) rfl 0 rfl h1 (bz_le rfl)
  refine g_aload_n (q := 5) dX6_setNumber_4 rfl rfl ?_
  refine g_iload_n (q := 6) dX6_setNumber_5 rfl rfl ?_
  refine gb_callV (q := 9) (j := 0) (i := 0) dX6_setNumber_6 rfl kv_X6_25 (c_sadd (n := 0) (by decide) (hB.1.at (j := 0) rfl)) rfl (by decide) hB rfl rfl rfl rfl (bz_le rfl) (by decide) (by decide) (fun r g1 hQ => ?_)
  obtain ⟨rfl, h1⟩ := hQ
  have hB := hB.sp (j := 0) rfl 0 rfl h1 (bz_le rfl)
  exact g_vret dX6_setNumber_9 rfl (⟨rfl, hB⟩)
/-- the first places of the row hold the stack, its bottom first -/
def e_has (v : Nat → Int32) (s : List Int32) : Prop := ∀ (j : Nat) (x : Int32), s.reverse[j]? = some x → v j = x
theorem e_has_push {v : Nat → Int32} {s : List Int32} {x : Int32} (h : e_has v s) : e_has (upd v s.length x) (x :: s) := by
  intro j y hj
  rw [List.reverse_cons] at hj
  by_cases hl : j < s.length
  · rw [List.getElem?_append_left (by simpa using hl)] at hj
    rw [upd_ne (by omega)]; exact h j y hj
  · rw [List.getElem?_append_right (by simpa using hl)] at hj
    have : j - s.reverse.length = 0 := by
      have := (List.getElem?_eq_some_iff.mp hj).1
      simp at this ⊢; omega
    rw [this] at hj
    have e : j = s.length := by simp at this; omega
    subst e
    rw [upd_eq]; simpa using hj
theorem e_has_op {v : Nat → Int32} {r : List Int32} {x y z : Int32} (h : e_has v (y :: x :: r)) : e_has (upd v r.length z) (z :: r) := by
  have h0 : e_has v r := fun j w hj => by
    have hl := (List.getElem?_eq_some_iff.mp hj).1
    refine h j w ?_
    rw [List.reverse_cons, List.reverse_cons, List.append_assoc, List.getElem?_append_left hl]
    exact hj
  exact e_has_push h0
theorem e_has_1 {v : Nat → Int32} {r : List Int32} {x y : Int32} (h : e_has v (y :: x :: r)) : v r.length = x ∧ v (r.length + 1) = y := by
  refine ⟨h r.length x ?_, h (r.length + 1) y ?_⟩
  · rw [List.reverse_cons, List.reverse_cons, List.append_assoc, List.getElem?_append_right (by simp)]; simp
  · rw [List.reverse_cons, List.reverse_cons, List.append_assoc, List.getElem?_append_right (by simp)]; simp
theorem e_isop_le {i : Int32} (h : e_isop i) : i ≤ -37 ∧ i < 0 := by
  rcases h with rfl | rfl | rfl | rfl | rfl <;> decide
theorem e_isnm_gt {i : Int32} (h : e_isnm i) : ¬ i ≤ -37 ∧ i < 0 := by
  rcases h with rfl | rfl | rfl | rfl <;> decide
theorem e_st_nm {k a w t i : Int32} {s : List Int32} (h1 : ¬ i ≤ -37) (h2 : i < 0) : e_st k a w t i s = e_nm i k a w t :: s := by unfold e_st; rw [if_neg h1, if_pos h2]
theorem e_st_num {k a w t i : Int32} {s : List Int32} (h1 : ¬ i ≤ -37) (h2 : ¬ i < 0) : e_st k a w t i s = i :: s := by unfold e_st; rw [if_neg h1, if_neg h2]
theorem e_num_gt {n : Nat} (h : n < 10000) : ¬ nI n ≤ -37 ∧ ¬ nI n < 0 := by
  refine ⟨fun e => ?_, nI_pos (by omega)⟩
  rw [Int32.le_iff_toInt_le, nI_toInt (by omega)] at e
  have : (-37 : Int32).toInt = -37 := by decide
  omega
set_option maxRecDepth 20000 in
set_option maxHeartbeats 1000000 in
theorem c_valueFor {l : Launch} {E : bz_E} {L : List Nat} {g : Nat → va_E} {o : Nat} {v it : Nat → Int32} {k a w t : Int32} {l0 : List Int32} (hl : l0.length ≤ 600) (hit : ∀ (j : Nat) (x : Int32), l0[j]? = some x → it j = x) (hok : e_ok l0 0) (hH : bz_H L g o (b_Sum E o v it (nI l0.length))) : bz_K l E mX6_valueFor 1 [.ref o, .int k, .int a, .int w, .int t] L g (fun r g1 => r = some (.int (e_val l0 k a w t)) ∧ ∃ v1 : Nat → Int32, bz_B L g g1 [(o, b_Sum E o v1 it (nI l0.length))]) := by
  refine bz_K.of (by decide) (bz_le rfl) (fun sz => ?_)
  have hB := bz_B.rf (bz_W.one hH)
  show bz_G _ _ _ _ _ _ _ _ _ _ _ _ 0 [(0, .ref o), (1, .int k), (2, .int a), (3, .int w), (4, .int t)] []
  have K : ∀ (m : List Int32) (i n : Nat) (s : List Int32) (v : Nat → Int32) (g1 : Nat → va_E), i + m.length = l0.length → (∀ (j : Nat) (x : Int32), m[j]? = some x → it (i + j) = x) → s.length = n → n ≤ 16 → e_ok m n → e_has v s → bz_B L g g1 [(o, b_Sum E o v it (nI l0.length))] → e_run k a w t m s = e_run k a w t l0 [] → bz_G l E mX6_valueFor (bz_R 1 0 0) L sz (bz_Fm E L sz (fun r g1 => r = some (.int (e_val l0 k a w t)) ∧ ∃ v1 : Nat → Int32, bz_B L g g1 [(o, b_Sum E o v1 it (nI l0.length))])) sz 0 0 L g1 6 [(6, .int (nI i)), (5, .int (nI n)), (0, .ref o), (1, .int k), (2, .int a), (3, .int w), (4, .int t)] [] := by
    intro m
    induction m with
    | nil =>
      intro i n s v g hi hit hn hn16 hok hs hB hrun
      have hi2 : i = l0.length := by simpa using hi
      have hend : v 0 = e_val l0 k a w t := by
        have h1 : n = 1 := hok
        rw [e_val, ← hrun, e_run]
        match s, hn, hs with
        | [x], _, hs => exact hs 0 x rfl
        | [], hn, _ => simp at hn; omega
        | _ :: _ :: _, hn, _ => simp at hn; omega
      refine g_iload (q := 8) dX6_valueFor_6 rfl rfl ?_
      refine g_aload_n (q := 9) dX6_valueFor_8 rfl rfl ?_
      refine gb_getf (q := 12) (j := 0) (i := 0) dX6_valueFor_9 rfl fl_X6_18 hB rfl rfl rfl rfl ?_
      refine g_icmpN_ge (q := 15) (t := 142) dX6_valueFor_12 rfl (by decide) (by omega) (by omega) (fun _ => ?_) (fun c => absurd c (by omega))
      refine g_aload_n (q := 143) dX6_valueFor_142 rfl rfl ?_
      refine gb_getf (q := 146) (j := 0) (i := 0) dX6_valueFor_143 rfl fl_X6_9 hB rfl rfl rfl rfl ?_
      refine g_iconst (q := 147) (v := (nI 0)) dX6_valueFor_146 rfl (by decide) ?_
      refine gb_ialdN (q := 148) (j := 0) (i := 1) dX6_valueFor_147 rfl hB rfl rfl rfl (by omega) (by decide) ?_
      exact g_iret dX6_valueFor_148 rfl (⟨congrArg (fun z => some (Value.int z)) hend, _, hB⟩)
    | cons q m ih =>
      intro i n s v g hi hit hn hn16 hok hs hB hrun
      have hi2 : i + (m.length + 1) = l0.length := by simpa using hi
      have hq : it i = q := hit 0 q rfl
      rcases hok with ⟨h1, h2, h3⟩ | ⟨h1 | ⟨q2, h1, rfl⟩, h2, h3⟩
      · obtain ⟨y, x, r, rfl⟩ : ∃ y x r, s = y :: x :: r := by
          match s, hn with
          | [], hn => simp at hn; omega
          | [_], hn => simp at hn; omega
          | y :: x :: r, _ => exact ⟨y, x, r, rfl⟩
        refine g_iload (q := 8) dX6_valueFor_6 rfl rfl ?_
        refine g_aload_n (q := 9) dX6_valueFor_8 rfl rfl ?_
        refine gb_getf (q := 12) (j := 0) (i := 0) dX6_valueFor_9 rfl fl_X6_18 hB rfl rfl rfl rfl ?_
        refine g_icmpN_ge (q := 15) (t := 142) dX6_valueFor_12 rfl (by decide) (by omega) (by omega) (fun c => absurd c (by omega)) (fun _ => ?_)
        refine g_iload (q := 17) dX6_valueFor_15 rfl rfl ?_
        refine g_aload_n (q := 18) dX6_valueFor_17 rfl rfl ?_
        refine gb_getf (q := 21) (j := 0) (i := 0) dX6_valueFor_18 rfl fl_X6_15 hB rfl rfl rfl rfl ?_
        refine gb_alen (q := 22) (j := 0) (i := 2) (t0 := 1) dX6_valueFor_21 rfl hB rfl rfl rfl rfl ?_
        refine g_icmpN_ge (q := 25) (t := 142) dX6_valueFor_22 rfl (by decide) (by omega) (by omega) (fun c => absurd c (by omega)) (fun _ => ?_)
        refine g_aload_n (q := 26) dX6_valueFor_25 rfl rfl ?_
        refine gb_getf (q := 29) (j := 0) (i := 0) dX6_valueFor_26 rfl fl_X6_15 hB rfl rfl rfl rfl ?_
        refine g_iload (q := 31) dX6_valueFor_29 rfl rfl ?_
        refine gb_ialdN (q := 32) (j := 0) (i := 2) dX6_valueFor_31 rfl hB rfl rfl rfl (by omega) (by decide) ?_
        refine g_eqi (v := q) (hq) ?_
        refine g_istore (q := 34) dX6_valueFor_32 rfl (by decide) rfl ?_
        refine g_iload (q := 36) dX6_valueFor_34 rfl rfl ?_
        refine g_bipush (q := 38) (v := (-37)) dX6_valueFor_36 rfl (by decide) ?_
        refine g_icmp_gt (q := 41) (t := 96) dX6_valueFor_38 rfl (by decide) (fun c => absurd c (Int32.not_lt.mpr (e_isop_le h1).1)) (fun _ => ?_)
        refine g_iload (q := 43) dX6_valueFor_41 rfl rfl ?_
        refine g_iconst (q := 44) (v := (nI 2)) dX6_valueFor_43 rfl (by decide) ?_
        refine g_icmpN_lt (q := 47) (t := 136) dX6_valueFor_44 rfl (by decide) (by omega) (by omega) (fun c => absurd c (by omega)) (fun _ => ?_)
        refine g_iload (q := 49) dX6_valueFor_47 rfl rfl ?_
        refine g_aload_n (q := 50) dX6_valueFor_49 rfl rfl ?_
        refine gb_getf (q := 53) (j := 0) (i := 0) dX6_valueFor_50 rfl fl_X6_9 hB rfl rfl rfl rfl ?_
        refine gb_alen (q := 54) (j := 0) (i := 1) (t0 := 1) dX6_valueFor_53 rfl hB rfl rfl rfl rfl ?_
        refine g_icmpN_gt (q := 57) (t := 136) dX6_valueFor_54 rfl (by decide) (by omega) (by omega) (fun c => absurd c (by omega)) (fun _ => ?_)
        refine g_aload_n (q := 58) dX6_valueFor_57 rfl rfl ?_
        refine gb_getf (q := 61) (j := 0) (i := 0) dX6_valueFor_58 rfl fl_X6_9 hB rfl rfl rfl rfl ?_
        refine g_iload (q := 63) dX6_valueFor_61 rfl rfl ?_
        refine g_iconst (q := 64) (v := (nI 2)) dX6_valueFor_63 rfl (by decide) ?_
        refine g_isubN (q := 65) dX6_valueFor_64 rfl (by omega) ?_
        refine g_iload (q := 67) dX6_valueFor_65 rfl rfl ?_
        refine g_ineg (q := 68) dX6_valueFor_67 rfl ?_
        refine g_aload_n (q := 69) dX6_valueFor_68 rfl rfl ?_
        refine gb_getf (q := 72) (j := 0) (i := 0) dX6_valueFor_69 rfl fl_X6_9 hB rfl rfl rfl rfl ?_
        refine g_iload (q := 74) dX6_valueFor_72 rfl rfl ?_
        refine g_iconst (q := 75) (v := (nI 2)) dX6_valueFor_74 rfl (by decide) ?_
        refine g_isubN (q := 76) dX6_valueFor_75 rfl (by omega) ?_
        refine gb_ialdN (q := 77) (j := 0) (i := 1) dX6_valueFor_76 rfl hB rfl rfl rfl (by omega) (by decide) ?_
        refine g_eqi (v := x) (by rw [show n - 2 = r.length by simp at hn; omega]; exact (e_has_1 hs).1) ?_
        refine g_aload_n (q := 78) dX6_valueFor_77 rfl rfl ?_
        refine gb_getf (q := 81) (j := 0) (i := 0) dX6_valueFor_78 rfl fl_X6_9 hB rfl rfl rfl rfl ?_
        refine g_iload (q := 83) dX6_valueFor_81 rfl rfl ?_
        refine g_iconst (q := 84) (v := (nI 1)) dX6_valueFor_83 rfl (by decide) ?_
        refine g_isubN (q := 85) dX6_valueFor_84 rfl (by omega) ?_
        refine gb_ialdN (q := 86) (j := 0) (i := 1) dX6_valueFor_85 rfl hB rfl rfl rfl (by omega) (by decide) ?_
        refine g_eqi (v := y) (by rw [show n - 1 = r.length + 1 by simp at hn; omega]; exact (e_has_1 hs).2) ?_
        refine g_callS (q := 89) dX6_valueFor_86 rfl ks_X6_29 rfl (c_combine h1) (by decide) rfl (bz_le rfl) (by decide) (by decide) (fun r g1 hQ => ?_)
        obtain ⟨rfl, hg⟩ := hQ
        have hg := hg.symm
        subst hg
        refine gb_iastN (q := 90) (j := 0) (i := 1) dX6_valueFor_89 rfl hB rfl rfl rfl (by omega) (by decide) (fun g hB => ?_)
        refine g_iincM (q := 93) (c := 1) dX6_valueFor_90 rfl (by decide) rfl rfl (by decide) (by omega) ?_
        refine g_goto (q := 136) dX6_valueFor_93 (by decide) ?_
        refine g_iincN (q := 139) (c := 1) dX6_valueFor_136 rfl (by decide) rfl rfl (by decide) ?_
        refine g_goto (q := 6) dX6_valueFor_139 (by decide) ?_
        refine g_lvs (lv1 := [(6, .int (nI (i + 1))), (5, .int (nI (n - 1))), (0, .ref o), (1, .int k), (2, .int a), (3, .int w), (4, .int t)]) ⟨rfl, rfl, rfl, rfl, rfl, rfl, rfl, trivial⟩ ?_
        exact ih (i + 1) (n - 1) (e_op q x y :: r) _ g (by omega) (fun j x hj => by rw [show i + 1 + j = i + (j + 1) by omega]; exact hit (j + 1) x hj) (by simp at hn ⊢; omega) (by omega) h3 (by rw [show n - 2 = r.length by simp at hn; omega]; exact e_has_op hs) hB (by rw [← hrun, e_run, e_st, if_pos (e_isop_le h1).1])
      ·
        refine g_iload (q := 8) dX6_valueFor_6 rfl rfl ?_
        refine g_aload_n (q := 9) dX6_valueFor_8 rfl rfl ?_
        refine gb_getf (q := 12) (j := 0) (i := 0) dX6_valueFor_9 rfl fl_X6_18 hB rfl rfl rfl rfl ?_
        refine g_icmpN_ge (q := 15) (t := 142) dX6_valueFor_12 rfl (by decide) (by omega) (by omega) (fun c => absurd c (by omega)) (fun _ => ?_)
        refine g_iload (q := 17) dX6_valueFor_15 rfl rfl ?_
        refine g_aload_n (q := 18) dX6_valueFor_17 rfl rfl ?_
        refine gb_getf (q := 21) (j := 0) (i := 0) dX6_valueFor_18 rfl fl_X6_15 hB rfl rfl rfl rfl ?_
        refine gb_alen (q := 22) (j := 0) (i := 2) (t0 := 1) dX6_valueFor_21 rfl hB rfl rfl rfl rfl ?_
        refine g_icmpN_ge (q := 25) (t := 142) dX6_valueFor_22 rfl (by decide) (by omega) (by omega) (fun c => absurd c (by omega)) (fun _ => ?_)
        refine g_aload_n (q := 26) dX6_valueFor_25 rfl rfl ?_
        refine gb_getf (q := 29) (j := 0) (i := 0) dX6_valueFor_26 rfl fl_X6_15 hB rfl rfl rfl rfl ?_
        refine g_iload (q := 31) dX6_valueFor_29 rfl rfl ?_
        refine gb_ialdN (q := 32) (j := 0) (i := 2) dX6_valueFor_31 rfl hB rfl rfl rfl (by omega) (by decide) ?_
        refine g_eqi (v := q) (hq) ?_
        refine g_istore (q := 34) dX6_valueFor_32 rfl (by decide) rfl ?_
        refine g_iload (q := 36) dX6_valueFor_34 rfl rfl ?_
        refine g_bipush (q := 38) (v := (-37)) dX6_valueFor_36 rfl (by decide) ?_
        refine g_icmp_gt (q := 41) (t := 96) dX6_valueFor_38 rfl (by decide) (fun _ => ?_) (fun c => absurd (Int32.not_le.mp (e_isnm_gt h1).1) c)
        refine g_iload (q := 98) dX6_valueFor_96 rfl rfl ?_
        refine g_aload_n (q := 99) dX6_valueFor_98 rfl rfl ?_
        refine gb_getf (q := 102) (j := 0) (i := 0) dX6_valueFor_99 rfl fl_X6_9 hB rfl rfl rfl rfl ?_
        refine gb_alen (q := 103) (j := 0) (i := 1) (t0 := 1) dX6_valueFor_102 rfl hB rfl rfl rfl rfl ?_
        refine g_icmpN_ge (q := 106) (t := 136) dX6_valueFor_103 rfl (by decide) (by omega) (by omega) (fun c => absurd c (by omega)) (fun _ => ?_)
        refine g_aload_n (q := 107) dX6_valueFor_106 rfl rfl ?_
        refine gb_getf (q := 110) (j := 0) (i := 0) dX6_valueFor_107 rfl fl_X6_9 hB rfl rfl rfl rfl ?_
        refine g_iload (q := 112) dX6_valueFor_110 rfl rfl ?_
        refine g_iload (q := 114) dX6_valueFor_112 rfl rfl ?_
        refine g_if_lt (q := 117) (t := 122) dX6_valueFor_114 rfl (by decide) (fun _ => ?_) (fun c => absurd ((e_isnm_gt h1).2) c)
        refine g_iload (q := 124) dX6_valueFor_122 rfl rfl ?_
        refine g_iload_n (q := 125) dX6_valueFor_124 rfl rfl ?_
        refine g_iload_n (q := 126) dX6_valueFor_125 rfl rfl ?_
        refine g_iload_n (q := 127) dX6_valueFor_126 rfl rfl ?_
        refine g_iload (q := 129) dX6_valueFor_127 rfl rfl ?_
        refine g_callS (q := 132) dX6_valueFor_129 rfl ks_X6_33 rfl (c_named h1) (by decide) rfl (bz_le rfl) (by decide) (by decide) (fun r g1 hQ => ?_)
        obtain ⟨rfl, hg⟩ := hQ
        have hg := hg.symm
        subst hg
        refine gb_iastN (q := 133) (j := 0) (i := 1) dX6_valueFor_132 rfl hB rfl rfl rfl (by omega) (by decide) (fun g hB => ?_)
        refine g_iincN (q := 136) (c := 1) dX6_valueFor_133 rfl (by decide) rfl rfl (by decide) ?_
        refine g_iincN (q := 139) (c := 1) dX6_valueFor_136 rfl (by decide) rfl rfl (by decide) ?_
        refine g_goto (q := 6) dX6_valueFor_139 (by decide) ?_
        refine g_lvs (lv1 := [(6, .int (nI (i + 1))), (5, .int (nI (n + 1))), (0, .ref o), (1, .int k), (2, .int a), (3, .int w), (4, .int t)]) ⟨rfl, rfl, rfl, rfl, rfl, rfl, rfl, trivial⟩ ?_
        exact ih (i + 1) (n + 1) (e_nm q k a w t :: s) _ g (by omega) (fun j x hj => by rw [show i + 1 + j = i + (j + 1) by omega]; exact hit (j + 1) x hj) (by simp; exact hn) (by omega) h3 (by rw [← hn]; exact e_has_push hs) hB (by rw [← hrun, e_run, e_st_nm (e_isnm_gt h1).1 (e_isnm_gt h1).2])
      ·
        refine g_iload (q := 8) dX6_valueFor_6 rfl rfl ?_
        refine g_aload_n (q := 9) dX6_valueFor_8 rfl rfl ?_
        refine gb_getf (q := 12) (j := 0) (i := 0) dX6_valueFor_9 rfl fl_X6_18 hB rfl rfl rfl rfl ?_
        refine g_icmpN_ge (q := 15) (t := 142) dX6_valueFor_12 rfl (by decide) (by omega) (by omega) (fun c => absurd c (by omega)) (fun _ => ?_)
        refine g_iload (q := 17) dX6_valueFor_15 rfl rfl ?_
        refine g_aload_n (q := 18) dX6_valueFor_17 rfl rfl ?_
        refine gb_getf (q := 21) (j := 0) (i := 0) dX6_valueFor_18 rfl fl_X6_15 hB rfl rfl rfl rfl ?_
        refine gb_alen (q := 22) (j := 0) (i := 2) (t0 := 1) dX6_valueFor_21 rfl hB rfl rfl rfl rfl ?_
        refine g_icmpN_ge (q := 25) (t := 142) dX6_valueFor_22 rfl (by decide) (by omega) (by omega) (fun c => absurd c (by omega)) (fun _ => ?_)
        refine g_aload_n (q := 26) dX6_valueFor_25 rfl rfl ?_
        refine gb_getf (q := 29) (j := 0) (i := 0) dX6_valueFor_26 rfl fl_X6_15 hB rfl rfl rfl rfl ?_
        refine g_iload (q := 31) dX6_valueFor_29 rfl rfl ?_
        refine gb_ialdN (q := 32) (j := 0) (i := 2) dX6_valueFor_31 rfl hB rfl rfl rfl (by omega) (by decide) ?_
        refine g_eqi (v := nI q2) (hq) ?_
        refine g_istore (q := 34) dX6_valueFor_32 rfl (by decide) rfl ?_
        refine g_iload (q := 36) dX6_valueFor_34 rfl rfl ?_
        refine g_bipush (q := 38) (v := (-37)) dX6_valueFor_36 rfl (by decide) ?_
        refine g_icmp_gt (q := 41) (t := 96) dX6_valueFor_38 rfl (by decide) (fun _ => ?_) (fun c => absurd (Int32.not_le.mp (e_num_gt h1).1) c)
        refine g_iload (q := 98) dX6_valueFor_96 rfl rfl ?_
        refine g_aload_n (q := 99) dX6_valueFor_98 rfl rfl ?_
        refine gb_getf (q := 102) (j := 0) (i := 0) dX6_valueFor_99 rfl fl_X6_9 hB rfl rfl rfl rfl ?_
        refine gb_alen (q := 103) (j := 0) (i := 1) (t0 := 1) dX6_valueFor_102 rfl hB rfl rfl rfl rfl ?_
        refine g_icmpN_ge (q := 106) (t := 136) dX6_valueFor_103 rfl (by decide) (by omega) (by omega) (fun c => absurd c (by omega)) (fun _ => ?_)
        refine g_aload_n (q := 107) dX6_valueFor_106 rfl rfl ?_
        refine gb_getf (q := 110) (j := 0) (i := 0) dX6_valueFor_107 rfl fl_X6_9 hB rfl rfl rfl rfl ?_
        refine g_iload (q := 112) dX6_valueFor_110 rfl rfl ?_
        refine g_iload (q := 114) dX6_valueFor_112 rfl rfl ?_
        refine g_if_lt (q := 117) (t := 122) dX6_valueFor_114 rfl (by decide) (fun c => absurd c ((e_num_gt h1).2)) (fun _ => ?_)
        refine g_iload (q := 119) dX6_valueFor_117 rfl rfl ?_
        refine g_goto (q := 132) dX6_valueFor_119 (by decide) ?_
        refine gb_iastN (q := 133) (j := 0) (i := 1) dX6_valueFor_132 rfl hB rfl rfl rfl (by omega) (by decide) (fun g hB => ?_)
        refine g_iincN (q := 136) (c := 1) dX6_valueFor_133 rfl (by decide) rfl rfl (by decide) ?_
        refine g_iincN (q := 139) (c := 1) dX6_valueFor_136 rfl (by decide) rfl rfl (by decide) ?_
        refine g_goto (q := 6) dX6_valueFor_139 (by decide) ?_
        refine g_lvs (lv1 := [(6, .int (nI (i + 1))), (5, .int (nI (n + 1))), (0, .ref o), (1, .int k), (2, .int a), (3, .int w), (4, .int t)]) ⟨rfl, rfl, rfl, rfl, rfl, rfl, rfl, trivial⟩ ?_
        exact ih (i + 1) (n + 1) (nI q2 :: s) _ g (by omega) (fun j x hj => by rw [show i + 1 + j = i + (j + 1) by omega]; exact hit (j + 1) x hj) (by simp; exact hn) (by omega) h3 (by rw [← hn]; exact e_has_push hs) hB (by rw [← hrun, e_run, e_st_num (e_num_gt h1).1 (e_num_gt h1).2])
  refine g_iconst (q := 1) (v := (nI 0)) dX6_valueFor_0 rfl (by decide) ?_
  refine g_istore (q := 3) dX6_valueFor_1 rfl (by decide) rfl ?_
  refine g_iconst (q := 4) (v := (nI 0)) dX6_valueFor_3 rfl (by decide) ?_
  refine g_istore (q := 6) dX6_valueFor_4 rfl (by decide) rfl ?_
  refine g_lvs (lv1 := [(6, .int (nI 0)), (5, .int (nI 0)), (0, .ref o), (1, .int k), (2, .int a), (3, .int w), (4, .int t)]) ⟨rfl, rfl, rfl, rfl, rfl, rfl, rfl, trivial⟩ ?_
  exact K l0 0 0 [] v g (by omega) (fun j x hj => by rw [Nat.zero_add]; exact hit j x hj) rfl (by omega) hok (fun j x hj => by simp at hj) hB rfl
