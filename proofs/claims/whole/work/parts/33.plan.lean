/-! class Plan -/
abbrev b_Plan (E : bz_E) (o : Nat) (zs cs ts ws v0 i0 : Nat → Int32) (n0 : Int32) (v1 i1 : Nat → Int32) (n1 sp tc : Int32) : List va_E :=
  .inr (3, [.ref (o + 1), .ref (o + 2), .ref (o + 3), .ref (o + 4), .ref (o + 5), .ref (o + 8), .int sp, .int tc]) :: .inl (E.1.1 21, 8, .inl zs) :: .inl (E.1.1 21, 8, .inl cs) :: .inl (E.1.1 21, 16, .inl ts) :: .inl (E.1.1 21, 32, .inl ws) :: (b_Sum E (o + 5) v0 i0 n0 ++ b_Sum E (o + 8) v1 i1 n1)
/-- the kinds, as a bit set, of which an earlier one blocks -/
def s_bk (tb : Nat → Nat) (k : Nat) (r : Bool) : Nat → Nat
  | 0 => 0
  | e + 1 => s_bk tb k r e + (if (r && e == 0) || tb (k * 4 + e) != 0 then 0 else 2 ^ e)
theorem s_bk_lt (tb : Nat → Nat) (k : Nat) (r : Bool) : ∀ e, s_bk tb k r e < 2 ^ e
  | 0 => by simp [s_bk]
  | e + 1 => by
    have := s_bk_lt tb k r e
    rw [s_bk, Nat.pow_succ]
    split <;> omega
theorem bz_orlo : ∀ e, e < 4 → ∀ b, b < 2 ^ e → nI b ||| (nI 1 <<< (nI e &&& 31)) = nI (b + 2 ^ e) := by decide +kernel
def v_lp (t : Nat → Int32) (k a e : Nat) : Nat → Int32 := fun j => if k * 4 + a ≤ j ∧ j < k * 4 + e then nI 1 else t j

set_option maxRecDepth 20000 in
set_option maxHeartbeats 1000000 in
theorem c_sizeOf {l : Launch} {E : bz_E} {L : List Nat} {g : Nat → va_E} {o s k : Nat} {zs cs ts ws v0 i0 v1 i1 : Nat → Int32} {n0 n1 sp tc : Int32} (h : s * 4 + k < 8) (hH : bz_H L g o (b_Plan E o zs cs ts ws v0 i0 n0 v1 i1 n1 sp tc)) : bz_K l E mX3_sizeOf 1 [.ref o, .int (nI s), .int (nI k)] L g (fun r g1 => r = some (.int (zs (s * 4 + k))) ∧ g1 = g) := by
  refine bz_K.of (by decide) (bz_le rfl) (fun sz => ?_)
  have hB := bz_B.rf (bz_W.one hH)
  show bz_G _ _ _ _ _ _ _ _ _ _ _ _ 0 [(0, .ref o), (1, .int (nI s)), (2, .int (nI k))] []
  refine g_aload_n (q := 1) dX3_sizeOf_0 rfl rfl ?_
  refine gb_getf (q := 4) (j := 0) (i := 0) dX3_sizeOf_1 rfl fl_X3_9 hB rfl rfl rfl rfl ?_
  refine g_iload_n (q := 5) dX3_sizeOf_4 rfl rfl ?_
  refine g_iconst (q := 6) (v := (nI 4)) dX3_sizeOf_5 rfl (by decide) ?_
  refine g_imulN (q := 7) dX3_sizeOf_6 rfl ?_
  refine g_iload_n (q := 8) dX3_sizeOf_7 rfl rfl ?_
  refine g_iaddN (q := 9) dX3_sizeOf_8 rfl ?_
  refine g_callN (q := 12) dX3_sizeOf_9 rfl kn_X3_55 rfl (c_cellOf h (by decide) (hH.sub 1 rfl)) (by decide) rfl (bz_le rfl) (by decide) (by decide) (fun r g1 hQ => ?_)
  obtain ⟨rfl, hg⟩ := hQ
  have hg := hg.symm
  subst hg
  exact g_iret dX3_sizeOf_12 rfl (⟨rfl, rfl⟩)
set_option maxRecDepth 20000 in
set_option maxHeartbeats 1000000 in
theorem c_creditsOf {l : Launch} {E : bz_E} {L : List Nat} {g : Nat → va_E} {o s k : Nat} {zs cs ts ws v0 i0 v1 i1 : Nat → Int32} {n0 n1 sp tc : Int32} (h : s * 4 + k < 8) (hH : bz_H L g o (b_Plan E o zs cs ts ws v0 i0 n0 v1 i1 n1 sp tc)) : bz_K l E mX3_creditsOf 1 [.ref o, .int (nI s), .int (nI k)] L g (fun r g1 => r = some (.int (cs (s * 4 + k))) ∧ g1 = g) := by
  refine bz_K.of (by decide) (bz_le rfl) (fun sz => ?_)
  have hB := bz_B.rf (bz_W.one hH)
  show bz_G _ _ _ _ _ _ _ _ _ _ _ _ 0 [(0, .ref o), (1, .int (nI s)), (2, .int (nI k))] []
  refine g_aload_n (q := 1) dX3_creditsOf_0 rfl rfl ?_
  refine gb_getf (q := 4) (j := 0) (i := 0) dX3_creditsOf_1 rfl fl_X3_15 hB rfl rfl rfl rfl ?_
  refine g_iload_n (q := 5) dX3_creditsOf_4 rfl rfl ?_
  refine g_iconst (q := 6) (v := (nI 4)) dX3_creditsOf_5 rfl (by decide) ?_
  refine g_imulN (q := 7) dX3_creditsOf_6 rfl ?_
  refine g_iload_n (q := 8) dX3_creditsOf_7 rfl rfl ?_
  refine g_iaddN (q := 9) dX3_creditsOf_8 rfl ?_
  refine g_callN (q := 12) dX3_creditsOf_9 rfl kn_X3_55 rfl (c_cellOf h (by decide) (hH.sub 2 rfl)) (by decide) rfl (bz_le rfl) (by decide) (by decide) (fun r g1 hQ => ?_)
  obtain ⟨rfl, hg⟩ := hQ
  have hg := hg.symm
  subst hg
  exact g_iret dX3_creditsOf_12 rfl (⟨rfl, rfl⟩)
set_option maxRecDepth 20000 in
set_option maxHeartbeats 1000000 in
theorem c_latencyOf0 {l : Launch} {E : bz_E} {L : List Nat} {g : Nat → va_E} {o : Nat} {zs cs ts ws v0 i0 v1 i1 : Nat → Int32} {n0 n1 sp tc : Int32} (hH : bz_H L g o (b_Plan E o zs cs ts ws v0 i0 n0 v1 i1 n1 sp tc)) : bz_K l E mX3_latencyOf 0 [.ref o, .int (nI 0)] L g (fun r g1 => r = some (.ref (o + 5)) ∧ g1 = g) := by
  refine bz_K.of (by decide) (bz_le rfl) (fun sz => ?_)
  have hB := bz_B.rf (bz_W.one hH)
  show bz_G _ _ _ _ _ _ _ _ _ _ _ _ 0 [(0, .ref o), (1, .int (nI 0))] []
  refine g_iload_n (q := 1) dX3_latencyOf_0 rfl rfl ?_
  refine g_ifN_ne (q := 4) (t := 11) dX3_latencyOf_1 rfl (by decide) (by omega) (fun c => absurd c (by omega)) (fun _ => ?_)
  refine g_aload_n (q := 5) dX3_latencyOf_4 rfl rfl ?_
  refine gb_getf (q := 8) (j := 0) (i := 0) dX3_latencyOf_5 rfl fl_X3_27 hB rfl rfl rfl rfl ?_
  refine g_goto (q := 15) dX3_latencyOf_8 (by decide) ?_
  exact g_aret dX3_latencyOf_15 rfl (Or.inl ⟨_, rfl⟩) (Or.inr ⟨_, rfl⟩) ⟨rfl, rfl⟩
set_option maxRecDepth 20000 in
set_option maxHeartbeats 1000000 in
theorem c_latencyOf1 {l : Launch} {E : bz_E} {L : List Nat} {g : Nat → va_E} {o : Nat} {zs cs ts ws v0 i0 v1 i1 : Nat → Int32} {n0 n1 sp tc : Int32} (hH : bz_H L g o (b_Plan E o zs cs ts ws v0 i0 n0 v1 i1 n1 sp tc)) : bz_K l E mX3_latencyOf 0 [.ref o, .int (nI 1)] L g (fun r g1 => r = some (.ref (o + 8)) ∧ g1 = g) := by
  refine bz_K.of (by decide) (bz_le rfl) (fun sz => ?_)
  have hB := bz_B.rf (bz_W.one hH)
  show bz_G _ _ _ _ _ _ _ _ _ _ _ _ 0 [(0, .ref o), (1, .int (nI 1))] []
  refine g_iload_n (q := 1) dX3_latencyOf_0 rfl rfl ?_
  refine g_ifN_ne (q := 4) (t := 11) dX3_latencyOf_1 rfl (by decide) (by omega) (fun _ => ?_) (fun c => absurd c (by omega))
  refine g_aload_n (q := 12) dX3_latencyOf_11 rfl rfl ?_
  refine gb_getf (q := 15) (j := 0) (i := 0) dX3_latencyOf_12 rfl fl_X3_31 hB rfl rfl rfl rfl ?_
  exact g_aret dX3_latencyOf_15 rfl (Or.inl ⟨_, rfl⟩) (Or.inr ⟨_, rfl⟩) ⟨rfl, rfl⟩
set_option maxRecDepth 20000 in
set_option maxHeartbeats 1000000 in
theorem c_blockingKinds {l : Launch} {E : bz_E} {L : List Nat} {g : Nat → va_E} {o k : Nat} {rx : Bool} {tb : Nat → Nat} {zs cs ts ws v0 i0 v1 i1 : Nat → Int32} {n0 n1 sp tc : Int32} (hk : k < 4) (ht : ∀ i, i < 16 → ts i = nI (tb i) ∧ tb i ≤ 1) (hH : bz_H L g o (b_Plan E o zs cs ts ws v0 i0 n0 v1 i1 n1 sp tc)) : bz_K l E mX3_blockingKinds 1 [.ref o, .int (nI k), .int (tB rx)] L g (fun r g1 => r = some (.int (nI (s_bk tb k rx 4))) ∧ g1 = g) := by
  refine bz_K.of (by decide) (bz_le rfl) (fun sz => ?_)
  have hB := bz_B.rf (bz_W.one hH)
  show bz_G _ _ _ _ _ _ _ _ _ _ _ _ 0 [(0, .ref o), (1, .int (nI k)), (2, .int (tB rx))] []
  have K : ∀ (m i : Nat), i + m = 4 → bz_G l E mX3_blockingKinds (bz_R 1 0 0) L sz (bz_Fm E L sz (fun r g1 => r = some (.int (nI (s_bk tb k rx 4))) ∧ g1 = g)) sz 0 0 L g 5 [(4, .int (nI i)), (3, .int (nI (s_bk tb k rx i))), (0, .ref o), (1, .int (nI k)), (2, .int (tB rx))] [] := by
    intro m
    induction m with
    | zero =>
      intro i hi
      refine g_iload (q := 7) dX3_blockingKinds_5 rfl rfl ?_
      refine g_iconst (q := 8) (v := (nI 4)) dX3_blockingKinds_7 rfl (by decide) ?_
      refine g_icmpN_ge (q := 11) (t := 61) dX3_blockingKinds_8 rfl (by decide) (by omega) (by omega) (fun _ => ?_) (fun c => absurd c (by omega))
      refine g_iload_n (q := 62) dX3_blockingKinds_61 rfl rfl ?_
      exact g_iret dX3_blockingKinds_62 rfl (⟨by rw [show i = 4 by omega], rfl⟩)
    | succ m ih =>
      intro i hi
      have hlt := s_bk_lt tb k rx i
      cases rx with
      | false =>
        refine g_iload (q := 7) dX3_blockingKinds_5 rfl rfl ?_
        refine g_iconst (q := 8) (v := (nI 4)) dX3_blockingKinds_7 rfl (by decide) ?_
        refine g_icmpN_ge (q := 11) (t := 61) dX3_blockingKinds_8 rfl (by decide) (by omega) (by omega) (fun c => absurd c (by omega)) (fun _ => ?_)
        refine g_iload_n (q := 12) dX3_blockingKinds_11 rfl rfl ?_
        refine g_if_eq (q := 15) (t := 24) dX3_blockingKinds_12 rfl (by decide) (fun _ => ?_) (fun c => absurd (rfl) c)
        refine g_iconst (q := 25) (v := (nI 0)) dX3_blockingKinds_24 rfl (by decide) ?_
        refine g_istore (q := 27) dX3_blockingKinds_25 rfl (by decide) rfl ?_
        refine g_iload (q := 29) dX3_blockingKinds_27 rfl rfl ?_
        refine g_ifN_ne (q := 32) (t := 55) dX3_blockingKinds_29 rfl (by decide) (by omega) (fun c => absurd c (by omega)) (fun _ => ?_)
        refine g_aload_n (q := 33) dX3_blockingKinds_32 rfl rfl ?_
        refine gb_getf (q := 36) (j := 0) (i := 0) dX3_blockingKinds_33 rfl fl_X3_18 hB rfl rfl rfl rfl ?_
        refine g_iload_n (q := 37) dX3_blockingKinds_36 rfl rfl ?_
        refine g_iconst (q := 38) (v := (nI 4)) dX3_blockingKinds_37 rfl (by decide) ?_
        refine g_imulN (q := 39) dX3_blockingKinds_38 rfl ?_
        refine g_iload (q := 41) dX3_blockingKinds_39 rfl rfl ?_
        refine g_iaddN (q := 42) dX3_blockingKinds_41 rfl ?_
        refine g_callN (q := 45) dX3_blockingKinds_42 rfl kn_X3_55 rfl (c_cellOf (i := k * 4 + i) (by omega) (by decide) (hH.sub 3 rfl)) (by decide) rfl (bz_le rfl) (by decide) (by decide) (fun r g1 hQ => ?_)
        obtain ⟨rfl, hg⟩ := hQ
        have hg := hg.symm
        subst hg
        refine g_eqi (v := nI (tb (k * 4 + i))) ((ht _ (by omega)).1) ?_
        refine g_ifN_ne (q := 48) (t := 55) dX3_blockingKinds_45 rfl (by decide) (by have := (ht (k * 4 + i) (by omega)).2; omega) (fun c_45 => ?_) (fun c_45 => ?_)
        · refine g_iincN (q := 58) (c := 1) dX3_blockingKinds_55 rfl (by decide) rfl rfl (by decide) ?_
          refine g_goto (q := 5) dX3_blockingKinds_58 (by decide) ?_
          first
            | (refine g_lvs (lv1 := [(4, .int (nI (i + 1))), (3, .int (nI (s_bk tb k false i))), (0, .ref o), (1, .int (nI k)), (2, .int (tB false))]) ⟨rfl, rfl, rfl, rfl, rfl, trivial⟩ ?_
               have e3 : s_bk tb k false (i + 1) = s_bk tb k false i := by simp [s_bk, c_45]
               rw [← e3]
               exact ih (i + 1) (by omega))
            | (refine g_lvs (lv1 := [(4, .int (nI (i + 1))), (3, .int (nI (s_bk tb k false i) ||| (nI 1 <<< (nI i &&& 31)))), (0, .ref o), (1, .int (nI k)), (2, .int (tB false))]) ⟨rfl, rfl, rfl, rfl, rfl, trivial⟩ ?_
               have e3 : s_bk tb k false (i + 1) = s_bk tb k false i + 2 ^ i := by simp [s_bk, c_45]
               rw [bz_orlo i (by omega) _ hlt, ← e3]
               exact ih (i + 1) (by omega))
        · refine g_iload_n (q := 49) dX3_blockingKinds_48 rfl rfl ?_
          refine g_iconst (q := 50) (v := (nI 1)) dX3_blockingKinds_49 rfl (by decide) ?_
          refine g_iload (q := 52) dX3_blockingKinds_50 rfl rfl ?_
          refine g_ishl (q := 53) dX3_blockingKinds_52 rfl ?_
          refine g_ior (q := 54) dX3_blockingKinds_53 rfl ?_
          refine g_istore_n (q := 55) rfl dX3_blockingKinds_54 rfl (by decide) rfl ?_
          refine g_iincN (q := 58) (c := 1) dX3_blockingKinds_55 rfl (by decide) rfl rfl (by decide) ?_
          refine g_goto (q := 5) dX3_blockingKinds_58 (by decide) ?_
          first
            | (refine g_lvs (lv1 := [(4, .int (nI (i + 1))), (3, .int (nI (s_bk tb k false i))), (0, .ref o), (1, .int (nI k)), (2, .int (tB false))]) ⟨rfl, rfl, rfl, rfl, rfl, trivial⟩ ?_
               have e3 : s_bk tb k false (i + 1) = s_bk tb k false i := by simp [s_bk, c_45]
               rw [← e3]
               exact ih (i + 1) (by omega))
            | (refine g_lvs (lv1 := [(4, .int (nI (i + 1))), (3, .int (nI (s_bk tb k false i) ||| (nI 1 <<< (nI i &&& 31)))), (0, .ref o), (1, .int (nI k)), (2, .int (tB false))]) ⟨rfl, rfl, rfl, rfl, rfl, trivial⟩ ?_
               have e3 : s_bk tb k false (i + 1) = s_bk tb k false i + 2 ^ i := by simp [s_bk, c_45]
               rw [bz_orlo i (by omega) _ hlt, ← e3]
               exact ih (i + 1) (by omega))
      | true =>
        refine g_iload (q := 7) dX3_blockingKinds_5 rfl rfl ?_
        refine g_iconst (q := 8) (v := (nI 4)) dX3_blockingKinds_7 rfl (by decide) ?_
        refine g_icmpN_ge (q := 11) (t := 61) dX3_blockingKinds_8 rfl (by decide) (by omega) (by omega) (fun c => absurd c (by omega)) (fun _ => ?_)
        refine g_iload_n (q := 12) dX3_blockingKinds_11 rfl rfl ?_
        refine g_if_eq (q := 15) (t := 24) dX3_blockingKinds_12 rfl (by decide) (fun c => absurd c (by decide)) (fun _ => ?_)
        refine g_iload (q := 17) dX3_blockingKinds_15 rfl rfl ?_
        refine g_ifN_ne (q := 20) (t := 24) dX3_blockingKinds_17 rfl (by decide) (by omega) (fun c_17 => ?_) (fun c_17 => ?_)
        · refine g_iconst (q := 25) (v := (nI 0)) dX3_blockingKinds_24 rfl (by decide) ?_
          refine g_istore (q := 27) dX3_blockingKinds_25 rfl (by decide) rfl ?_
          refine g_iload (q := 29) dX3_blockingKinds_27 rfl rfl ?_
          refine g_ifN_ne (q := 32) (t := 55) dX3_blockingKinds_29 rfl (by decide) (by omega) (fun c => absurd c (by omega)) (fun _ => ?_)
          refine g_aload_n (q := 33) dX3_blockingKinds_32 rfl rfl ?_
          refine gb_getf (q := 36) (j := 0) (i := 0) dX3_blockingKinds_33 rfl fl_X3_18 hB rfl rfl rfl rfl ?_
          refine g_iload_n (q := 37) dX3_blockingKinds_36 rfl rfl ?_
          refine g_iconst (q := 38) (v := (nI 4)) dX3_blockingKinds_37 rfl (by decide) ?_
          refine g_imulN (q := 39) dX3_blockingKinds_38 rfl ?_
          refine g_iload (q := 41) dX3_blockingKinds_39 rfl rfl ?_
          refine g_iaddN (q := 42) dX3_blockingKinds_41 rfl ?_
          refine g_callN (q := 45) dX3_blockingKinds_42 rfl kn_X3_55 rfl (c_cellOf (i := k * 4 + i) (by omega) (by decide) (hH.sub 3 rfl)) (by decide) rfl (bz_le rfl) (by decide) (by decide) (fun r g1 hQ => ?_)
          obtain ⟨rfl, hg⟩ := hQ
          have hg := hg.symm
          subst hg
          refine g_eqi (v := nI (tb (k * 4 + i))) ((ht _ (by omega)).1) ?_
          refine g_ifN_ne (q := 48) (t := 55) dX3_blockingKinds_45 rfl (by decide) (by have := (ht (k * 4 + i) (by omega)).2; omega) (fun c_45 => ?_) (fun c_45 => ?_)
          · refine g_iincN (q := 58) (c := 1) dX3_blockingKinds_55 rfl (by decide) rfl rfl (by decide) ?_
            refine g_goto (q := 5) dX3_blockingKinds_58 (by decide) ?_
            first
              | (refine g_lvs (lv1 := [(4, .int (nI (i + 1))), (3, .int (nI (s_bk tb k true i))), (0, .ref o), (1, .int (nI k)), (2, .int (tB true))]) ⟨rfl, rfl, rfl, rfl, rfl, trivial⟩ ?_
                 have e3 : s_bk tb k true (i + 1) = s_bk tb k true i := by simp [s_bk, c_17, c_45]
                 rw [← e3]
                 exact ih (i + 1) (by omega))
              | (refine g_lvs (lv1 := [(4, .int (nI (i + 1))), (3, .int (nI (s_bk tb k true i) ||| (nI 1 <<< (nI i &&& 31)))), (0, .ref o), (1, .int (nI k)), (2, .int (tB true))]) ⟨rfl, rfl, rfl, rfl, rfl, trivial⟩ ?_
                 have e3 : s_bk tb k true (i + 1) = s_bk tb k true i + 2 ^ i := by simp [s_bk, c_17, c_45]
                 rw [bz_orlo i (by omega) _ hlt, ← e3]
                 exact ih (i + 1) (by omega))
          · refine g_iload_n (q := 49) dX3_blockingKinds_48 rfl rfl ?_
            refine g_iconst (q := 50) (v := (nI 1)) dX3_blockingKinds_49 rfl (by decide) ?_
            refine g_iload (q := 52) dX3_blockingKinds_50 rfl rfl ?_
            refine g_ishl (q := 53) dX3_blockingKinds_52 rfl ?_
            refine g_ior (q := 54) dX3_blockingKinds_53 rfl ?_
            refine g_istore_n (q := 55) rfl dX3_blockingKinds_54 rfl (by decide) rfl ?_
            refine g_iincN (q := 58) (c := 1) dX3_blockingKinds_55 rfl (by decide) rfl rfl (by decide) ?_
            refine g_goto (q := 5) dX3_blockingKinds_58 (by decide) ?_
            first
              | (refine g_lvs (lv1 := [(4, .int (nI (i + 1))), (3, .int (nI (s_bk tb k true i))), (0, .ref o), (1, .int (nI k)), (2, .int (tB true))]) ⟨rfl, rfl, rfl, rfl, rfl, trivial⟩ ?_
                 have e3 : s_bk tb k true (i + 1) = s_bk tb k true i := by simp [s_bk, c_17, c_45]
                 rw [← e3]
                 exact ih (i + 1) (by omega))
              | (refine g_lvs (lv1 := [(4, .int (nI (i + 1))), (3, .int (nI (s_bk tb k true i) ||| (nI 1 <<< (nI i &&& 31)))), (0, .ref o), (1, .int (nI k)), (2, .int (tB true))]) ⟨rfl, rfl, rfl, rfl, rfl, trivial⟩ ?_
                 have e3 : s_bk tb k true (i + 1) = s_bk tb k true i + 2 ^ i := by simp [s_bk, c_17, c_45]
                 rw [bz_orlo i (by omega) _ hlt, ← e3]
                 exact ih (i + 1) (by omega))
        · refine g_iconst (q := 21) (v := (nI 1)) dX3_blockingKinds_20 rfl (by decide) ?_
          refine g_goto (q := 25) dX3_blockingKinds_21 (by decide) ?_
          refine g_istore (q := 27) dX3_blockingKinds_25 rfl (by decide) rfl ?_
          refine g_iload (q := 29) dX3_blockingKinds_27 rfl rfl ?_
          refine g_ifN_ne (q := 32) (t := 55) dX3_blockingKinds_29 rfl (by decide) (by omega) (fun _ => ?_) (fun c => absurd c (by omega))
          refine g_iincN (q := 58) (c := 1) dX3_blockingKinds_55 rfl (by decide) rfl rfl (by decide) ?_
          refine g_goto (q := 5) dX3_blockingKinds_58 (by decide) ?_
          first
            | (refine g_lvs (lv1 := [(4, .int (nI (i + 1))), (3, .int (nI (s_bk tb k true i))), (0, .ref o), (1, .int (nI k)), (2, .int (tB true))]) ⟨rfl, rfl, rfl, rfl, rfl, trivial⟩ ?_
               have e3 : s_bk tb k true (i + 1) = s_bk tb k true i := by simp [s_bk, c_17]
               rw [← e3]
               exact ih (i + 1) (by omega))
            | (refine g_lvs (lv1 := [(4, .int (nI (i + 1))), (3, .int (nI (s_bk tb k true i) ||| (nI 1 <<< (nI i &&& 31)))), (0, .ref o), (1, .int (nI k)), (2, .int (tB true))]) ⟨rfl, rfl, rfl, rfl, rfl, trivial⟩ ?_
               have e3 : s_bk tb k true (i + 1) = s_bk tb k true i + 2 ^ i := by simp [s_bk, c_17]
               rw [bz_orlo i (by omega) _ hlt, ← e3]
               exact ih (i + 1) (by omega))
  refine g_iconst (q := 1) (v := (nI 0)) dX3_blockingKinds_0 rfl (by decide) ?_
  refine g_istore_n (q := 2) rfl dX3_blockingKinds_1 rfl (by decide) rfl ?_
  refine g_iconst (q := 3) (v := (nI 0)) dX3_blockingKinds_2 rfl (by decide) ?_
  refine g_istore (q := 5) dX3_blockingKinds_3 rfl (by decide) rfl ?_
  refine g_lvs (lv1 := [(4, .int (nI 0)), (3, .int (nI (s_bk tb k rx 0))), (0, .ref o), (1, .int (nI k)), (2, .int (tB rx))]) ⟨rfl, rfl, rfl, rfl, rfl, trivial⟩ ?_
  exact K 4 0 (by omega)
theorem v_lpS {t : Nat → Int32} {k a e : Nat} (h : a ≤ e) : upd (v_lp t k a e) (k * 4 + e) (nI 1) = v_lp t k a (e + 1) := by
  funext j
  by_cases hj : j = k * 4 + e
  · subst hj; rw [upd_eq]; simp only [v_lp]; rw [if_pos ⟨by omega, by omega⟩]
  · rw [upd_ne hj]; simp only [v_lp]
    by_cases h2 : k * 4 + a ≤ j ∧ j < k * 4 + e
    · rw [if_pos h2, if_pos ⟨by omega, by omega⟩]
    · rw [if_neg h2, if_neg (by omega)]
set_option maxRecDepth 20000 in
set_option maxHeartbeats 1000000 in
theorem c_letPass {l : Launch} {E : bz_E} {L : List Nat} {g : Nat → va_E} {o k a b : Nat} {zs cs ts ws v0 i0 v1 i1 : Nat → Int32} {n0 n1 sp tc : Int32} (hk : k < 4) (hb : b < 4) (hab : a ≤ b) (hH : bz_H L g o (b_Plan E o zs cs ts ws v0 i0 n0 v1 i1 n1 sp tc)) : bz_K l E mX3_letPass 0 [.ref o, .int (nI k), .int (nI a), .int (nI b)] L g (fun r g1 => r = none ∧ bz_B L g g1 [(o, (b_Plan E o zs cs (v_lp ts k a (b + 1)) ws v0 i0 n0 v1 i1 n1 sp tc))]) := by
  refine bz_K.of (by decide) (bz_le rfl) (fun sz => ?_)
  have hB := bz_B.rf (bz_W.one hH)
  show bz_G _ _ _ _ _ _ _ _ _ _ _ _ 0 [(0, .ref o), (1, .int (nI k)), (2, .int (nI a)), (3, .int (nI b))] []
  have K : ∀ (m e : Nat) (g1 : Nat → va_E), e + m = b + 1 → a ≤ e → bz_B L g g1 [(o, (b_Plan E o zs cs (v_lp ts k a e) ws v0 i0 n0 v1 i1 n1 sp tc))] → bz_G l E mX3_letPass (bz_R 0 0 0) L sz (bz_Fm E L sz (fun r g1 => r = none ∧ bz_B L g g1 [(o, (b_Plan E o zs cs (v_lp ts k a (b + 1)) ws v0 i0 n0 v1 i1 n1 sp tc))])) sz 0 0 L g1 3 [(4, .int (nI e)), (0, .ref o), (1, .int (nI k)), (2, .int (nI a)), (3, .int (nI b))] [] := by
    intro m
    induction m with
    | zero =>
      intro e g he hae hB
      refine g_iload (q := 5) dX3_letPass_3 rfl rfl ?_
      refine g_iload_n (q := 6) dX3_letPass_5 rfl rfl ?_
      refine g_icmpN_gt (q := 9) (t := 46) dX3_letPass_6 rfl (by decide) (by omega) (by omega) (fun _ => ?_) (fun c => absurd c (by omega))
      exact g_vret dX3_letPass_46 rfl (⟨rfl, by rw [show e = b + 1 by omega] at hB; exact hB⟩)
    | succ m ih =>
      intro e g he hae hB
      refine g_iload (q := 5) dX3_letPass_3 rfl rfl ?_
      refine g_iload_n (q := 6) dX3_letPass_5 rfl rfl ?_
      refine g_icmpN_gt (q := 9) (t := 46) dX3_letPass_6 rfl (by decide) (by omega) (by omega) (fun c => absurd c (by omega)) (fun _ => ?_)
      refine g_iload_n (q := 10) dX3_letPass_9 rfl rfl ?_
      refine g_iconst (q := 11) (v := (nI 4)) dX3_letPass_10 rfl (by decide) ?_
      refine g_imulN (q := 12) dX3_letPass_11 rfl ?_
      refine g_iload (q := 14) dX3_letPass_12 rfl rfl ?_
      refine g_iaddN (q := 15) dX3_letPass_14 rfl ?_
      refine g_istore (q := 17) dX3_letPass_15 rfl (by decide) rfl ?_
      refine g_iload (q := 19) dX3_letPass_17 rfl rfl ?_
      refine g_ifN_lt (q := 22) (t := 40) dX3_letPass_19 rfl (by decide) (by omega) ?_
      refine g_iload (q := 24) dX3_letPass_22 rfl rfl ?_
      refine g_aload_n (q := 25) dX3_letPass_24 rfl rfl ?_
      refine gb_getf (q := 28) (j := 0) (i := 0) dX3_letPass_25 rfl fl_X3_18 hB rfl rfl rfl rfl ?_
      refine gb_alen (q := 29) (j := 0) (i := 3) (t0 := 1) dX3_letPass_28 rfl hB rfl rfl rfl rfl ?_
      refine g_icmpN_ge (q := 32) (t := 40) dX3_letPass_29 rfl (by decide) (by omega) (by omega) (fun c => absurd c (by omega)) (fun _ => ?_)
      refine g_aload_n (q := 33) dX3_letPass_32 rfl rfl ?_
      refine gb_getf (q := 36) (j := 0) (i := 0) dX3_letPass_33 rfl fl_X3_18 hB rfl rfl rfl rfl ?_
      refine g_iload (q := 38) dX3_letPass_36 rfl rfl ?_
      refine g_iconst (q := 39) (v := (nI 1)) dX3_letPass_38 rfl (by decide) ?_
      refine gb_iastN (q := 40) (j := 0) (i := 3) dX3_letPass_39 rfl hB rfl rfl rfl (by omega) (by decide) (fun g hB => ?_)
      refine g_iincN (q := 43) (c := 1) dX3_letPass_40 rfl (by decide) rfl rfl (by decide) ?_
      refine g_goto (q := 3) dX3_letPass_43 (by decide) ?_
      refine g_lvs (lv1 := [(4, .int (nI (e + 1))), (0, .ref o), (1, .int (nI k)), (2, .int (nI a)), (3, .int (nI b))]) ⟨rfl, rfl, rfl, rfl, rfl, trivial⟩ ?_
      refine ih (e + 1) g (by omega) (by omega) ?_
      rw [← v_lpS (by omega)]
      exact hB
  refine g_iload_n (q := 1) dX3_letPass_0 rfl rfl ?_
  refine g_istore (q := 3) dX3_letPass_1 rfl (by decide) rfl ?_
  refine g_lvs (lv1 := [(4, .int (nI a)), (0, .ref o), (1, .int (nI k)), (2, .int (nI a)), (3, .int (nI b))]) ⟨rfl, rfl, rfl, rfl, rfl, trivial⟩ ?_
  exact K (b + 1 - a) a g (by omega) (Nat.le_refl a) (by rw [show v_lp ts k a a = ts from by funext j; simp only [v_lp]; rw [if_neg (by omega)]]; exact hB)
set_option maxRecDepth 20000 in
set_option maxHeartbeats 1000000 in
theorem c_setDefaults {l : Launch} {E : bz_E} {L : List Nat} {g : Nat → va_E} {o : Nat} {zs cs ts ws v0 i0 v1 i1 : Nat → Int32} {n0 n1 sp tc : Int32} (hH : bz_H L g o (b_Plan E o zs cs ts ws v0 i0 n0 v1 i1 n1 sp tc)) : bz_K l E mX3_setDefaults 2 [.ref o] L g (fun r g1 => r = none ∧ bz_B L g g1 [(o, (b_Plan E o (v_fill zs (nI 4) 8) (v_fill cs (nI 2) 8) (v_lp (v_lp (v_lp (v_lp (v_fill ts (nI 0) 16) 0 1 (3 + 1)) 1 1 (2 + 1)) 2 1 (2 + 1)) 3 1 (3 + 1)) (v_fill ws (nI 0) 32) v0 (upd i0 0 (nI 1)) (nI (0 + 1)) v1 (upd i1 0 (nI 1)) (nI (0 + 1)) (nI 2) (nI 4)))]) := by
  refine bz_K.of (by decide) (bz_le rfl) (fun sz => ?_)
  have hB := bz_B.rf (bz_W.one hH)
  show bz_G _ _ _ _ _ _ _ _ _ _ _ _ 0 [(0, .ref o)] []
  refine g_aload_n (q := 1) dX3_setDefaults_0 rfl rfl ?_
  refine gb_getf (q := 4) (j := 0) (i := 0) dX3_setDefaults_1 rfl fl_X3_9 hB rfl rfl rfl rfl ?_
  refine g_iconst (q := 5) (v := (nI 4)) dX3_setDefaults_4 rfl (by decide) ?_
  refine g_callS (q := 8) dX3_setDefaults_5 rfl ks_X3_34 rfl (c_fill (by decide) ((hB.1.at (j := 0) rfl).sub 1 rfl)) (by decide) rfl (bz_le rfl) (by decide) (by decide) (fun r g1 hQ => ?_)
  obtain ⟨rfl, h1⟩ := hQ
  have hB := hB.sp (j := 0) rfl 1 rfl h1 (bz_le rfl)
  refine g_aload_n (q := 9) dX3_setDefaults_8 rfl rfl ?_
  refine gb_getf (q := 12) (j := 0) (i := 0) dX3_setDefaults_9 rfl fl_X3_15 hB rfl rfl rfl rfl ?_
  refine g_iconst (q := 13) (v := (nI 2)) dX3_setDefaults_12 rfl (by decide) ?_
  refine g_callS (q := 16) dX3_setDefaults_13 rfl ks_X3_34 rfl (c_fill (by decide) ((hB.1.at (j := 0) rfl).sub 2 rfl)) (by decide) rfl (bz_le rfl) (by decide) (by decide) (fun r g1 hQ => ?_)
  obtain ⟨rfl, h1⟩ := hQ
  have hB := hB.sp (j := 0) rfl 2 rfl h1 (bz_le rfl)
  refine g_aload_n (q := 17) dX3_setDefaults_16 rfl rfl ?_
  refine gb_getf (q := 20) (j := 0) (i := 0) dX3_setDefaults_17 rfl fl_X3_21 hB rfl rfl rfl rfl ?_
  refine g_iconst (q := 21) (v := (nI 0)) dX3_setDefaults_20 rfl (by decide) ?_
  refine g_callS (q := 24) dX3_setDefaults_21 rfl ks_X3_34 rfl (c_fill (by decide) ((hB.1.at (j := 0) rfl).sub 4 rfl)) (by decide) rfl (bz_le rfl) (by decide) (by decide) (fun r g1 hQ => ?_)
  obtain ⟨rfl, h1⟩ := hQ
  have hB := hB.sp (j := 0) rfl 4 rfl h1 (bz_le rfl)
  refine g_aload_n (q := 25) dX3_setDefaults_24 rfl rfl ?_
  refine gb_getf (q := 28) (j := 0) (i := 0) dX3_setDefaults_25 rfl fl_X3_18 hB rfl rfl rfl rfl ?_
  refine g_iconst (q := 29) (v := (nI 0)) dX3_setDefaults_28 rfl (by decide) ?_
  refine g_callS (q := 32) dX3_setDefaults_29 rfl ks_X3_34 rfl (c_fill (by decide) ((hB.1.at (j := 0) rfl).sub 3 rfl)) (by decide) rfl (bz_le rfl) (by decide) (by decide) (fun r g1 hQ => ?_)
  obtain ⟨rfl, h1⟩ := hQ
  have hB := hB.sp (j := 0) rfl 3 rfl h1 (bz_le rfl)
  refine g_aload_n (q := 33) dX3_setDefaults_32 rfl rfl ?_
  refine g_iconst (q := 34) (v := (nI 0)) dX3_setDefaults_33 rfl (by decide) ?_
  refine g_iconst (q := 35) (v := (nI 1)) dX3_setDefaults_34 rfl (by decide) ?_
  refine g_iconst (q := 36) (v := (nI 3)) dX3_setDefaults_35 rfl (by decide) ?_
  refine gb_callV (q := 39) (j := 0) (i := 0) dX3_setDefaults_36 rfl kv_X3_40 (c_letPass (k := 0) (a := 1) (b := 3) (by decide) (by decide) (by decide) (hB.1.at (j := 0) rfl)) rfl (by decide) hB rfl rfl rfl rfl (bz_le rfl) (by decide) (by decide) (fun r g1 hQ => ?_)
  obtain ⟨rfl, h1⟩ := hQ
  have hB := hB.sp (j := 0) rfl 0 rfl h1 (bz_le rfl)
  refine g_aload_n (q := 40) dX3_setDefaults_39 rfl rfl ?_
  refine g_iconst (q := 41) (v := (nI 1)) dX3_setDefaults_40 rfl (by decide) ?_
  refine g_iconst (q := 42) (v := (nI 1)) dX3_setDefaults_41 rfl (by decide) ?_
  refine g_iconst (q := 43) (v := (nI 2)) dX3_setDefaults_42 rfl (by decide) ?_
  refine gb_callV (q := 46) (j := 0) (i := 0) dX3_setDefaults_43 rfl kv_X3_40 (c_letPass (k := 1) (a := 1) (b := 2) (by decide) (by decide) (by decide) (hB.1.at (j := 0) rfl)) rfl (by decide) hB rfl rfl rfl rfl (bz_le rfl) (by decide) (by decide) (fun r g1 hQ => ?_)
  obtain ⟨rfl, h1⟩ := hQ
  have hB := hB.sp (j := 0) rfl 0 rfl h1 (bz_le rfl)
  refine g_aload_n (q := 47) dX3_setDefaults_46 rfl rfl ?_
  refine g_iconst (q := 48) (v := (nI 2)) dX3_setDefaults_47 rfl (by decide) ?_
  refine g_iconst (q := 49) (v := (nI 1)) dX3_setDefaults_48 rfl (by decide) ?_
  refine g_iconst (q := 50) (v := (nI 2)) dX3_setDefaults_49 rfl (by decide) ?_
  refine gb_callV (q := 53) (j := 0) (i := 0) dX3_setDefaults_50 rfl kv_X3_40 (c_letPass (k := 2) (a := 1) (b := 2) (by decide) (by decide) (by decide) (hB.1.at (j := 0) rfl)) rfl (by decide) hB rfl rfl rfl rfl (bz_le rfl) (by decide) (by decide) (fun r g1 hQ => ?_)
  obtain ⟨rfl, h1⟩ := hQ
  have hB := hB.sp (j := 0) rfl 0 rfl h1 (bz_le rfl)
  refine g_aload_n (q := 54) dX3_setDefaults_53 rfl rfl ?_
  refine g_iconst (q := 55) (v := (nI 3)) dX3_setDefaults_54 rfl (by decide) ?_
  refine g_iconst (q := 56) (v := (nI 1)) dX3_setDefaults_55 rfl (by decide) ?_
  refine g_iconst (q := 57) (v := (nI 3)) dX3_setDefaults_56 rfl (by decide) ?_
  refine gb_callV (q := 60) (j := 0) (i := 0) dX3_setDefaults_57 rfl kv_X3_40 (c_letPass (k := 3) (a := 1) (b := 3) (by decide) (by decide) (by decide) (hB.1.at (j := 0) rfl)) rfl (by decide) hB rfl rfl rfl rfl (bz_le rfl) (by decide) (by decide) (fun r g1 hQ => ?_)
  obtain ⟨rfl, h1⟩ := hQ
  have hB := hB.sp (j := 0) rfl 0 rfl h1 (bz_le rfl)
  refine g_aload_n (q := 61) dX3_setDefaults_60 rfl rfl ?_
  refine gb_getf (q := 64) (j := 0) (i := 0) dX3_setDefaults_61 rfl fl_X3_27 hB rfl rfl rfl rfl ?_
  refine g_iconst (q := 65) (v := (nI 1)) dX3_setDefaults_64 rfl (by decide) ?_
  refine gb_callV (q := 68) (j := 0) (i := 5) dX3_setDefaults_65 rfl kv_X3_44 (c_setNumber ((hB.1.at (j := 0) rfl).sub 5 rfl)) rfl (by decide) hB rfl rfl rfl rfl (bz_le rfl) (by decide) (by decide) (fun r g1 hQ => ?_)
  obtain ⟨rfl, h1⟩ := hQ
  have hB := hB.sp (j := 0) rfl 5 rfl h1 (bz_le rfl)
  refine g_aload_n (q := 69) dX3_setDefaults_68 rfl rfl ?_
  refine gb_getf (q := 72) (j := 0) (i := 0) dX3_setDefaults_69 rfl fl_X3_31 hB rfl rfl rfl rfl ?_
  refine g_iconst (q := 73) (v := (nI 1)) dX3_setDefaults_72 rfl (by decide) ?_
  refine gb_callV (q := 76) (j := 0) (i := 8) dX3_setDefaults_73 rfl kv_X3_44 (c_setNumber ((hB.1.at (j := 0) rfl).sub 8 rfl)) rfl (by decide) hB rfl rfl rfl rfl (bz_le rfl) (by decide) (by decide) (fun r g1 hQ => ?_)
  obtain ⟨rfl, h1⟩ := hQ
  have hB := hB.sp (j := 0) rfl 8 rfl h1 (bz_le rfl)
  refine g_aload_n (q := 77) dX3_setDefaults_76 rfl rfl ?_
  refine g_iconst (q := 78) (v := (nI 2)) dX3_setDefaults_77 rfl (by decide) ?_
  refine gb_putf (q := 81) (j := 0) (i := 0) dX3_setDefaults_78 rfl fp_X3_48 hB rfl rfl rfl (bz_le rfl) rfl rfl (fun g hB => ?_)
  refine g_aload_n (q := 82) dX3_setDefaults_81 rfl rfl ?_
  refine g_iconst (q := 83) (v := (nI 4)) dX3_setDefaults_82 rfl (by decide) ?_
  refine gb_putf (q := 86) (j := 0) (i := 0) dX3_setDefaults_83 rfl fp_X3_52 hB rfl rfl rfl (bz_le rfl) rfl rfl (fun g hB => ?_)
  exact g_vret dX3_setDefaults_86 rfl (⟨rfl, hB⟩)
