/-! class Port: workInTick and the rest, over a side as a value -/
abbrev PR : Type := (Nat → Int32) × (Nat → Int32) × Int32 × (Nat → Int32) × (Nat → Int32) × Int32 × (Nat → Int32) × (Nat → Int32) × (Nat → Int32) × (Nat → Int32) × (Nat → Int32) × Int32 × Int32 × Int32
abbrev b_PR (E : bz_E) (o : Nat) (r : PR) : List va_E := b_Port E o r.1 r.2.1 r.2.2.1 r.2.2.2.1 r.2.2.2.2.1 r.2.2.2.2.2.1 r.2.2.2.2.2.2.1 r.2.2.2.2.2.2.2.1 r.2.2.2.2.2.2.2.2.1 r.2.2.2.2.2.2.2.2.2.1 r.2.2.2.2.2.2.2.2.2.2.1 r.2.2.2.2.2.2.2.2.2.2.2.1 r.2.2.2.2.2.2.2.2.2.2.2.2.1 r.2.2.2.2.2.2.2.2.2.2.2.2.2
/-- a side: what waits, what its target holds, tags, memory, forwarded, passed, waited -/
abbrev Po : Type := List Tx × List Tx × Tg × (Nat → Int32) × Nat × Nat × Nat
def s_rep (r : PR) (P : Po) : Prop := s_ln r.1 r.2.1 P.1 ∧ r.2.2.1 = nI P.1.length ∧ s_lok P.1 ∧ s_ln r.2.2.2.1 r.2.2.2.2.1 P.2.1 ∧ r.2.2.2.2.2.1 = nI P.2.1.length ∧ s_lok P.2.1 ∧ s_tg r.2.2.2.2.2.2.1 r.2.2.2.2.2.2.2.1 r.2.2.2.2.2.2.2.2.1 r.2.2.2.2.2.2.2.2.2.1 P.2.2.1 ∧ r.2.2.2.2.2.2.2.2.2.2.1 = P.2.2.2.1 ∧ r.2.2.2.2.2.2.2.2.2.2.2.1 = nI P.2.2.2.2.1 ∧ r.2.2.2.2.2.2.2.2.2.2.2.2.1 = nI P.2.2.2.2.2.1 ∧ r.2.2.2.2.2.2.2.2.2.2.2.2.2 = nI P.2.2.2.2.2.2
def s_wkp (now room sp : Nat) (P : Po) : Po := ((s_work now room sp P.2.1 (P.1, P.2.2.1, P.2.2.2.1)).2.1, (s_work now room sp P.2.1 (P.1, P.2.2.1, P.2.2.2.1)).1, (s_work now room sp P.2.1 (P.1, P.2.2.1, P.2.2.2.1)).2.2.1, (s_work now room sp P.2.1 (P.1, P.2.2.1, P.2.2.2.1)).2.2.2, P.2.2.2.2)
def s_mvd (P P1 : Po) : Bool := decide (P1.2.1.length ≠ P.2.1.length ∨ P1.1.length ≠ P.1.length)
theorem tB_t {b : Bool} (h : b = true) : nI 1 = tB b := by subst h; rfl
theorem tB_f {b : Bool} (h : b = false) : nI 0 = tB b := by subst h; rfl
theorem s_lok_set {l : List Tx} {p : Nat} {x y : Tx} (h : s_lok l) (hx : l[p]? = some x) (hy : s_ok y) (hk : tK y = tK x) : s_lok (l.set p y) := by
  refine ⟨fun z hz => ?_, fun k hk4 => ?_⟩
  · rcases List.mem_or_eq_of_mem_set hz with h1 | h1
    · exact h.1 z h1
    · rw [h1]; exact hy
  · have h2 := h.2 k hk4
    have : s_cnt k (l.set p y) = s_cnt k l := by
      clear h h2
      induction l generalizing p with
      | nil => simp at hx
      | cons a r ih =>
        cases p with
        | zero =>
          have : a = x := by simpa using hx
          subst this
          unfold s_cnt
          rw [List.set_cons_zero, List.countP_cons, List.countP_cons, hk]
        | succ p =>
          have := ih (p := p) (by simpa using hx)
          unfold s_cnt at this ⊢
          rw [List.set_cons_succ, List.countP_cons, List.countP_cons, this]
    omega
theorem s_lok_er {l : List Tx} {p : Nat} (h : s_lok l) : s_lok (l.eraseIdx p) := by
  refine ⟨fun z hz => h.1 z (List.mem_of_mem_eraseIdx hz), fun k hk4 => ?_⟩
  have h2 := h.2 k hk4
  have : s_cnt k (l.eraseIdx p) ≤ s_cnt k l := by
    unfold s_cnt
    exact List.Sublist.countP_le (List.eraseIdx_sublist l p)
  omega
theorem s_mid {K R : List Tx} {x : Tx} : (K ++ x :: R)[K.length]? = some x := by
  rw [List.getElem?_append_right (Nat.le_refl _), Nat.sub_self]; rfl
theorem s_mset {K R : List Tx} {x y : Tx} : (K ++ x :: R).set K.length y = K ++ y :: R := by
  rw [List.set_append_right _ _ (Nat.le_refl _), Nat.sub_self, List.set_cons_zero]
theorem s_mer {K R : List Tx} {x : Tx} : (K ++ x :: R).eraseIdx K.length = K ++ R := by
  rw [List.eraseIdx_append_of_length_le (Nat.le_refl _), Nat.sub_self, List.eraseIdx_cons_zero]

set_option maxRecDepth 20000 in
set_option maxHeartbeats 1000000 in
theorem c_workInTick {l : Launch} {E : bz_E} {L : List Nat} {g : Nat → va_E} {o now room sp : Nat} {r0 : PR} {P : Po} (hnow : now < 100000) (hroom : room ≤ 8) (hsp : 1 ≤ sp ∧ sp ≤ 4) (hr : s_rep r0 P) (hH : bz_H L g o (b_PR E o r0)) : bz_K l E mX4_workInTick 5 [.ref o, .int (nI now), .int (nI room), .int (nI sp)] L g (fun r g1 => r = some (.int (tB (s_mvd P (s_wkp now room sp P)))) ∧ ∃ r1 : PR, bz_B L g g1 [(o, b_PR E o r1)] ∧ s_rep r1 (s_wkp now room sp P)) := by
  refine bz_K.of (by decide) (bz_le rfl) (fun sz => ?_)
  show bz_G _ _ _ _ _ _ _ _ _ _ _ _ 0 [(0, .ref o), (1, .int (nI now)), (2, .int (nI room)), (3, .int (nI sp))] []
  obtain ⟨fq, cq, zq, fw, cw, zw, s, wn, cm, wd, mem, a, b, c⟩ := r0
  obtain ⟨h1, h2, h3, h4, h5, h6, h7, h8, h9, h10, h11⟩ := hr
  dsimp only at h1 h2 h3 h4 h5 h6 h7 h8 h9 h10 h11
  subst h2; subst h5; subst h8
  have hl1 := h3.len
  have hl2 := h6.len
  have hB : bz_B L g g [(o, (b_Port E o fq cq (nI P.1.length) fw cw (nI P.2.1.length) s wn cm wd P.2.2.2.1 a b c))] := bz_B.rf (bz_W.one hH)
  have KK : ∀ (R K Q : List Tx) (T : Tg) (mem fq cq fw cw s cm wd : Nat → Int32) (g1 : Nat → va_E) (i : Nat), i + R.length = P.2.1.length → s_lok (K ++ R) → s_lok Q → s_ln fq cq Q → s_ln fw cw (K ++ R) → s_tg s wn cm wd T → bz_B L g g1 [(o, (b_Port E o fq cq (nI Q.length) fw cw (nI (K ++ R).length) s wn cm wd mem a b c))] → (K ++ (s_work now room sp R (Q, T, mem)).1, (s_work now room sp R (Q, T, mem)).2) = (s_work now room sp P.2.1 (P.1, P.2.2.1, P.2.2.2.1)) → bz_G l E mX4_workInTick (bz_R 5 0 0) L sz (bz_Fm E L sz (fun r g1 => r = some (.int (tB (s_mvd P (s_wkp now room sp P)))) ∧ ∃ r1 : PR, bz_B L g g1 [(o, b_PR E o r1)] ∧ s_rep r1 (s_wkp now room sp P))) sz 0 0 L g1 24 [(7, .int (nI i)), (6, .int (nI K.length)), (5, .int (nI P.1.length)), (4, .int (nI P.2.1.length)), (0, .ref o), (1, .int (nI now)), (2, .int (nI room)), (3, .int (nI sp))] [] := by
    intro R
    induction R with
    | nil =>
      intro K Q T mem fq cq fw cw s cm wd g i hi hWo hQo hs hW hT hB hrun
      have hi2 : i = P.2.1.length := by simpa using hi
      have e5 : s_wkp now room sp P = (Q, K ++ [], T, mem, P.2.2.2.2) := by unfold s_wkp; rw [← hrun, s_work]
      refine g_iload (q := 26) dX4_workInTick_24 rfl rfl ?_
      refine g_iload (q := 28) dX4_workInTick_26 rfl rfl ?_
      refine g_icmpN_ge (q := 31) (t := 78) dX4_workInTick_28 rfl (by decide) (by omega) (by omega) (fun _ => ?_) (fun c => absurd c (by omega))
      refine g_aload_n (q := 79) dX4_workInTick_78 rfl rfl ?_
      refine gb_getf (q := 82) (j := 0) (i := 0) dX4_workInTick_79 rfl fl_X4_18 hB rfl rfl rfl rfl ?_
      refine gb_getf (q := 85) (j := 0) (i := 4) dX4_workInTick_82 rfl fl_X4_68 hB rfl rfl rfl rfl ?_
      refine g_iload (q := 87) dX4_workInTick_85 rfl rfl ?_
      refine g_icmpN_ne (q := 90) (t := 102) dX4_workInTick_87 rfl (by decide) (by have := hWo.len; omega) (by omega) (fun c_87 => ?_) (fun c_87 => ?_)
      · refine g_iconst (q := 103) (v := (nI 1)) dX4_workInTick_102 rfl (by decide) ?_
        refine g_goto (q := 107) dX4_workInTick_103 (by decide) ?_
        exact g_zret dX4_workInTick_107 rfl rfl ⟨by rw [e5]; first | exact congrArg (fun z => some (Value.int z)) (tB_t (decide_eq_true (by dsimp only; omega))) | exact congrArg (fun z => some (Value.int z)) (tB_f (decide_eq_false (by dsimp only; omega))), (fq, cq, nI Q.length, fw, cw, nI (K ++ []).length, s, wn, cm, wd, mem, a, b, c), hB, by rw [e5]; exact ⟨hs, rfl, hQo, hW, rfl, hWo, hT, rfl, h9, h10, h11⟩⟩
      · refine g_aload_n (q := 91) dX4_workInTick_90 rfl rfl ?_
        refine gb_getf (q := 94) (j := 0) (i := 0) dX4_workInTick_91 rfl fl_X4_12 hB rfl rfl rfl rfl ?_
        refine gb_getf (q := 97) (j := 0) (i := 1) dX4_workInTick_94 rfl fl_X4_68 hB rfl rfl rfl rfl ?_
        refine g_iload (q := 99) dX4_workInTick_97 rfl rfl ?_
        refine g_icmpN_eq (q := 102) (t := 106) dX4_workInTick_99 rfl (by decide) (by have := hQo.len; omega) (by omega) (fun c_99 => ?_) (fun c_99 => ?_)
        · refine g_iconst (q := 107) (v := (nI 0)) dX4_workInTick_106 rfl (by decide) ?_
          exact g_zret dX4_workInTick_107 rfl rfl ⟨by rw [e5]; first | exact congrArg (fun z => some (Value.int z)) (tB_t (decide_eq_true (by dsimp only; omega))) | exact congrArg (fun z => some (Value.int z)) (tB_f (decide_eq_false (by dsimp only; omega))), (fq, cq, nI Q.length, fw, cw, nI (K ++ []).length, s, wn, cm, wd, mem, a, b, c), hB, by rw [e5]; exact ⟨hs, rfl, hQo, hW, rfl, hWo, hT, rfl, h9, h10, h11⟩⟩
        · refine g_iconst (q := 103) (v := (nI 1)) dX4_workInTick_102 rfl (by decide) ?_
          refine g_goto (q := 107) dX4_workInTick_103 (by decide) ?_
          exact g_zret dX4_workInTick_107 rfl rfl ⟨by rw [e5]; first | exact congrArg (fun z => some (Value.int z)) (tB_t (decide_eq_true (by dsimp only; omega))) | exact congrArg (fun z => some (Value.int z)) (tB_f (decide_eq_false (by dsimp only; omega))), (fq, cq, nI Q.length, fw, cw, nI (K ++ []).length, s, wn, cm, wd, mem, a, b, c), hB, by rw [e5]; exact ⟨hs, rfl, hQo, hW, rfl, hWo, hT, rfl, h9, h10, h11⟩⟩
    | cons x R ih =>
      intro K Q T mem fq cq fw cw s cm wd g i hi hWo hQo hs hW hT hB hrun
      have hi2 : i + (R.length + 1) = P.2.1.length := by simpa using hi
      have hmid := s_mid (K := K) (R := R) (x := x)
      have hx := hW.1 K.length x hmid
      have hxo := hWo.1 x (List.mem_of_getElem? hmid)
      have hK : K.length < 32 := by have := hWo.len; simp at this; omega
      have hxm := hxo.2.2.2.2.1
      by_cases hdue : tM x ≤ now
      · cases hd : (s_one now room sp x (Q, T, mem)).1 with
        | false =>
          refine g_iload (q := 26) dX4_workInTick_24 rfl rfl ?_
          refine g_iload (q := 28) dX4_workInTick_26 rfl rfl ?_
          refine g_icmpN_ge (q := 31) (t := 78) dX4_workInTick_28 rfl (by decide) (by omega) (by omega) (fun c => absurd c (by omega)) (fun _ => ?_)
          refine g_aload_n (q := 32) dX4_workInTick_31 rfl rfl ?_
          refine gb_getf (q := 35) (j := 0) (i := 0) dX4_workInTick_32 rfl fl_X4_18 hB rfl rfl rfl rfl ?_
          refine g_iload (q := 37) dX4_workInTick_35 rfl rfl ?_
          refine g_iconst (q := 38) (v := (nI 5)) dX4_workInTick_37 rfl (by decide) ?_
          refine gb_callV (q := 41) (j := 0) (i := 4) dX4_workInTick_38 rfl kv_X4_71 (c_get (x := 5) (by omega) ((hB.1.at (j := 0) rfl).sub 4 rfl)) rfl (by decide) hB rfl rfl rfl rfl (bz_le rfl) (by decide) (by decide) (fun r g1 hQ => ?_)
          obtain ⟨rfl, hg⟩ := hQ
          have hg := hg.symm
          subst hg
          refine g_eqi (v := nI (tM x)) (hx.2.2.2.2.2.1) ?_
          refine g_iload_n (q := 42) dX4_workInTick_41 rfl rfl ?_
          refine g_icmpN_gt (q := 45) (t := 69) dX4_workInTick_42 rfl (by decide) (by omega) (by omega) (fun c => absurd c (by omega)) (fun _ => ?_)
          refine g_aload_n (q := 46) dX4_workInTick_45 rfl rfl ?_
          refine g_iload (q := 48) dX4_workInTick_46 rfl rfl ?_
          refine g_iload_n (q := 49) dX4_workInTick_48 rfl rfl ?_
          refine g_iload_n (q := 50) dX4_workInTick_49 rfl rfl ?_
          refine g_iload_n (q := 51) dX4_workInTick_50 rfl rfl ?_
          refine gb_callV (q := 54) (j := 0) (i := 0) dX4_workInTick_51 rfl kv_X4_75 (c_finishes hnow hroom hsp hmid hW hWo hQo hs hT (hB.1.at (j := 0) rfl)) rfl (by decide) hB rfl rfl rfl rfl (bz_le rfl) (by decide) (by decide) (fun r g1 hQ => ?_)
          obtain ⟨rfl, f1, c1, fw1, s1, cm1, wd1, hb1, hs1, hQ1, hw1, hT1⟩ := hQ
          have hB := hB.sp (j := 0) rfl 0 rfl hb1 (bz_le rfl)
          rw [s_mset] at hw1
          have hWo1 := s_lok_set hWo hmid (s_one_ok (now := now) (room := room) (sp := sp) (S := (Q, T, mem)) hxo).1 (s_one_ok (now := now) (room := room) (sp := sp) (S := (Q, T, mem)) hxo).2.1
          rw [s_mset] at hWo1
          have hln : (K ++ x :: R).length = (K ++ (s_one now room sp x (Q, T, mem)).2.1 :: R).length := by simp
          rw [hln] at hB
          rw [hd]
          refine g_if_eq (q := 57) (t := 69) dX4_workInTick_54 rfl (by decide) (fun _ => ?_) (fun c => absurd (rfl) c)
          refine g_iincN (q := 72) (c := 1) dX4_workInTick_69 rfl (by decide) rfl rfl (by decide) ?_
          refine g_iincN (q := 75) (c := 1) dX4_workInTick_72 rfl (by decide) rfl rfl (by decide) ?_
          refine g_goto (q := 24) dX4_workInTick_75 (by decide) ?_
          refine g_lvs (lv1 := [(7, .int (nI (i + 1))), (6, .int (nI (K.length + 1))), (5, .int (nI P.1.length)), (4, .int (nI P.2.1.length)), (0, .ref o), (1, .int (nI now)), (2, .int (nI room)), (3, .int (nI sp))]) ⟨rfl, rfl, rfl, rfl, rfl, rfl, rfl, rfl, trivial⟩ ?_
          refine g_lvs (lv1 := [(7, .int (nI (i + 1))), (6, .int (nI (K ++ [(s_one now room sp x (Q, T, mem)).2.1]).length)), (5, .int (nI P.1.length)), (4, .int (nI P.2.1.length)), (0, .ref o), (1, .int (nI now)), (2, .int (nI room)), (3, .int (nI sp))]) ⟨rfl, by rw [List.length_append]; rfl, rfl, rfl, rfl, rfl, rfl, rfl, trivial⟩ ?_
          exact ih (K ++ [(s_one now room sp x (Q, T, mem)).2.1]) _ _ _ f1 c1 fw1 cw s1 cm1 wd1 _ (i + 1) (by omega) (by rw [List.append_assoc]; exact hWo1) hQ1 hs1 (by rw [List.append_assoc]; exact hw1) hT1 (by rw [List.append_assoc]; exact hB) (by rw [← hrun, s_work, if_pos (by omega), hd]; simp)
        | true =>
          refine g_iload (q := 26) dX4_workInTick_24 rfl rfl ?_
          refine g_iload (q := 28) dX4_workInTick_26 rfl rfl ?_
          refine g_icmpN_ge (q := 31) (t := 78) dX4_workInTick_28 rfl (by decide) (by omega) (by omega) (fun c => absurd c (by omega)) (fun _ => ?_)
          refine g_aload_n (q := 32) dX4_workInTick_31 rfl rfl ?_
          refine gb_getf (q := 35) (j := 0) (i := 0) dX4_workInTick_32 rfl fl_X4_18 hB rfl rfl rfl rfl ?_
          refine g_iload (q := 37) dX4_workInTick_35 rfl rfl ?_
          refine g_iconst (q := 38) (v := (nI 5)) dX4_workInTick_37 rfl (by decide) ?_
          refine gb_callV (q := 41) (j := 0) (i := 4) dX4_workInTick_38 rfl kv_X4_71 (c_get (x := 5) (by omega) ((hB.1.at (j := 0) rfl).sub 4 rfl)) rfl (by decide) hB rfl rfl rfl rfl (bz_le rfl) (by decide) (by decide) (fun r g1 hQ => ?_)
          obtain ⟨rfl, hg⟩ := hQ
          have hg := hg.symm
          subst hg
          refine g_eqi (v := nI (tM x)) (hx.2.2.2.2.2.1) ?_
          refine g_iload_n (q := 42) dX4_workInTick_41 rfl rfl ?_
          refine g_icmpN_gt (q := 45) (t := 69) dX4_workInTick_42 rfl (by decide) (by omega) (by omega) (fun c => absurd c (by omega)) (fun _ => ?_)
          refine g_aload_n (q := 46) dX4_workInTick_45 rfl rfl ?_
          refine g_iload (q := 48) dX4_workInTick_46 rfl rfl ?_
          refine g_iload_n (q := 49) dX4_workInTick_48 rfl rfl ?_
          refine g_iload_n (q := 50) dX4_workInTick_49 rfl rfl ?_
          refine g_iload_n (q := 51) dX4_workInTick_50 rfl rfl ?_
          refine gb_callV (q := 54) (j := 0) (i := 0) dX4_workInTick_51 rfl kv_X4_75 (c_finishes hnow hroom hsp hmid hW hWo hQo hs hT (hB.1.at (j := 0) rfl)) rfl (by decide) hB rfl rfl rfl rfl (bz_le rfl) (by decide) (by decide) (fun r g1 hQ => ?_)
          obtain ⟨rfl, f1, c1, fw1, s1, cm1, wd1, hb1, hs1, hQ1, hw1, hT1⟩ := hQ
          have hB := hB.sp (j := 0) rfl 0 rfl hb1 (bz_le rfl)
          rw [s_mset] at hw1
          have hWo1 := s_lok_set hWo hmid (s_one_ok (now := now) (room := room) (sp := sp) (S := (Q, T, mem)) hxo).1 (s_one_ok (now := now) (room := room) (sp := sp) (S := (Q, T, mem)) hxo).2.1
          rw [s_mset] at hWo1
          have hln : (K ++ x :: R).length = (K ++ (s_one now room sp x (Q, T, mem)).2.1 :: R).length := by simp
          rw [hln] at hB
          rw [hd]
          refine g_if_eq (q := 57) (t := 69) dX4_workInTick_54 rfl (by decide) (fun c => absurd c (by decide)) (fun _ => ?_)
          refine g_aload_n (q := 58) dX4_workInTick_57 rfl rfl ?_
          refine gb_getf (q := 61) (j := 0) (i := 0) dX4_workInTick_58 rfl fl_X4_18 hB rfl rfl rfl rfl ?_
          refine g_iload (q := 63) dX4_workInTick_61 rfl rfl ?_
          refine gb_callV (q := 66) (j := 0) (i := 4) dX4_workInTick_63 rfl kv_X4_79 (c_remove (p := K.length) (n := (K ++ (s_one now room sp x (Q, T, mem)).2.1 :: R).length) (kd := tK (s_one now room sp x (Q, T, mem)).2.1) (by simp) hWo1.len (hw1.1 K.length _ s_mid).1 (hWo1.1 _ (List.mem_of_getElem? s_mid)).1 ((hB.1.at (j := 0) rfl).sub 4 rfl)) rfl (by decide) hB rfl rfl rfl rfl (bz_le rfl) (by decide) (by decide) (fun r g1 hQ => ?_)
          obtain ⟨rfl, h1⟩ := hQ
          have hB := hB.sp (j := 0) rfl 4 rfl h1 (bz_le rfl)
          refine g_goto (q := 72) dX4_workInTick_66 (by decide) ?_
          refine g_iincN (q := 75) (c := 1) dX4_workInTick_72 rfl (by decide) rfl rfl (by decide) ?_
          refine g_goto (q := 24) dX4_workInTick_75 (by decide) ?_
          refine g_lvs (lv1 := [(7, .int (nI (i + 1))), (6, .int (nI K.length)), (5, .int (nI P.1.length)), (4, .int (nI P.2.1.length)), (0, .ref o), (1, .int (nI now)), (2, .int (nI room)), (3, .int (nI sp))]) ⟨rfl, rfl, rfl, rfl, rfl, rfl, rfl, rfl, trivial⟩ ?_
          have hw2 := s_ln_rm hWo1.1 hw1 s_mid
          have hWo2 := s_lok_er (p := K.length) hWo1
          rw [s_mer] at hw2 hWo2
          exact ih K (s_one now room sp x (Q, T, mem)).2.2.1 (s_one now room sp x (Q, T, mem)).2.2.2.1 (s_one now room sp x (Q, T, mem)).2.2.2.2 f1 c1 _ _ s1 cm1 wd1 _ (i + 1) (by omega) hWo2 hQ1 hs1 hw2 hT1 (by rw [show (K ++ R).length = (K ++ (s_one now room sp x (Q, T, mem)).2.1 :: R).length - 1 by simp]; exact hB) (by rw [← hrun, s_work, if_pos (by omega), hd]; simp)
      ·
        refine g_iload (q := 26) dX4_workInTick_24 rfl rfl ?_
        refine g_iload (q := 28) dX4_workInTick_26 rfl rfl ?_
        refine g_icmpN_ge (q := 31) (t := 78) dX4_workInTick_28 rfl (by decide) (by omega) (by omega) (fun c => absurd c (by omega)) (fun _ => ?_)
        refine g_aload_n (q := 32) dX4_workInTick_31 rfl rfl ?_
        refine gb_getf (q := 35) (j := 0) (i := 0) dX4_workInTick_32 rfl fl_X4_18 hB rfl rfl rfl rfl ?_
        refine g_iload (q := 37) dX4_workInTick_35 rfl rfl ?_
        refine g_iconst (q := 38) (v := (nI 5)) dX4_workInTick_37 rfl (by decide) ?_
        refine gb_callV (q := 41) (j := 0) (i := 4) dX4_workInTick_38 rfl kv_X4_71 (c_get (x := 5) (by omega) ((hB.1.at (j := 0) rfl).sub 4 rfl)) rfl (by decide) hB rfl rfl rfl rfl (bz_le rfl) (by decide) (by decide) (fun r g1 hQ => ?_)
        obtain ⟨rfl, hg⟩ := hQ
        have hg := hg.symm
        subst hg
        refine g_eqi (v := nI (tM x)) (hx.2.2.2.2.2.1) ?_
        refine g_iload_n (q := 42) dX4_workInTick_41 rfl rfl ?_
        refine g_icmpN_gt (q := 45) (t := 69) dX4_workInTick_42 rfl (by decide) (by omega) (by omega) (fun _ => ?_) (fun c => absurd c (by omega))
        refine g_iincN (q := 72) (c := 1) dX4_workInTick_69 rfl (by decide) rfl rfl (by decide) ?_
        refine g_iincN (q := 75) (c := 1) dX4_workInTick_72 rfl (by decide) rfl rfl (by decide) ?_
        refine g_goto (q := 24) dX4_workInTick_75 (by decide) ?_
        refine g_lvs (lv1 := [(7, .int (nI (i + 1))), (6, .int (nI (K.length + 1))), (5, .int (nI P.1.length)), (4, .int (nI P.2.1.length)), (0, .ref o), (1, .int (nI now)), (2, .int (nI room)), (3, .int (nI sp))]) ⟨rfl, rfl, rfl, rfl, rfl, rfl, rfl, rfl, trivial⟩ ?_
        refine g_lvs (lv1 := [(7, .int (nI (i + 1))), (6, .int (nI (K ++ [x]).length)), (5, .int (nI P.1.length)), (4, .int (nI P.2.1.length)), (0, .ref o), (1, .int (nI now)), (2, .int (nI room)), (3, .int (nI sp))]) ⟨rfl, by rw [List.length_append]; rfl, rfl, rfl, rfl, rfl, rfl, rfl, trivial⟩ ?_
        exact ih (K ++ [x]) Q T mem fq cq fw cw s cm wd _ (i + 1) (by omega) (by rw [List.append_assoc]; exact hWo) hQo hs (by rw [List.append_assoc]; exact hW) hT (by rw [List.append_assoc]; exact hB) (by rw [← hrun, s_work, if_neg (by omega)]; simp)
  refine g_aload_n (q := 1) dX4_workInTick_0 rfl rfl ?_
  refine gb_getf (q := 4) (j := 0) (i := 0) dX4_workInTick_1 rfl fl_X4_18 hB rfl rfl rfl rfl ?_
  refine gb_getf (q := 7) (j := 0) (i := 4) dX4_workInTick_4 rfl fl_X4_68 hB rfl rfl rfl rfl ?_
  refine g_istore (q := 9) dX4_workInTick_7 rfl (by decide) rfl ?_
  refine g_aload_n (q := 10) dX4_workInTick_9 rfl rfl ?_
  refine gb_getf (q := 13) (j := 0) (i := 0) dX4_workInTick_10 rfl fl_X4_12 hB rfl rfl rfl rfl ?_
  refine gb_getf (q := 16) (j := 0) (i := 1) dX4_workInTick_13 rfl fl_X4_68 hB rfl rfl rfl rfl ?_
  refine g_istore (q := 18) dX4_workInTick_16 rfl (by decide) rfl ?_
  refine g_iconst (q := 19) (v := (nI 0)) dX4_workInTick_18 rfl (by decide) ?_
  refine g_istore (q := 21) dX4_workInTick_19 rfl (by decide) rfl ?_
  refine g_iconst (q := 22) (v := (nI 0)) dX4_workInTick_21 rfl (by decide) ?_
  refine g_istore (q := 24) dX4_workInTick_22 rfl (by decide) rfl ?_
  refine g_lvs (lv1 := [(7, .int (nI 0)), (6, .int (nI 0)), (5, .int (nI P.1.length)), (4, .int (nI P.2.1.length)), (0, .ref o), (1, .int (nI now)), (2, .int (nI room)), (3, .int (nI sp))]) ⟨rfl, rfl, rfl, rfl, rfl, rfl, rfl, rfl, trivial⟩ ?_
  exact KK P.2.1 [] P.1 P.2.2.1 P.2.2.2.1 fq cq fw cw s cm wd g 0 (by omega) h6 h3 h1 h4 h7 hB rfl
