/-! class Situation -/
abbrev SR : Type := Int32 × Int32 × PR × PR
abbrev b_Sit (E : bz_E) (o : Nat) (r : SR) : List va_E := .inr (5, [.int r.1, .int r.2.1, .ref (o + 1), .ref (o + 14)]) :: (b_PR E (o + 1) r.2.2.1 ++ b_PR E (o + 14) r.2.2.2)
def s_srep (r : SR) (σ : Si) : Prop := r.1 = nI σ.1 ∧ s_rep r.2.2.1 σ.2.1 ∧ s_rep r.2.2.2 σ.2.2
theorem s_ekbit {m k : Nat} (hm : m < 16) (hk : k < 4) : nI m ||| (nI 1 <<< (nI k &&& 31)) = nI (m ||| 2 ^ k) := (bz_or16 m hm k hk).1
theorem tB_if {b : Bool} {v : Int32} (h : v = tB b) : (if v = 1 then (1 : Int32) else 0) = tB b := by subst h; cases b <;> rfl

set_option maxRecDepth 20000 in
set_option maxHeartbeats 1000000 in
theorem c_portOf0 {l : Launch} {E : bz_E} {L : List Nat} {g : Nat → va_E} {o : Nat} {r0 : SR} (hH : bz_H L g o (b_Sit E o r0)) : bz_K l E mX5_portOf 0 [.ref o, .int (nI 0)] L g (fun r g1 => r = some (.ref (o + 1)) ∧ g1 = g) := by
  refine bz_K.of (by decide) (bz_le rfl) (fun sz => ?_)
  have hB := bz_B.rf (bz_W.one hH)
  show bz_G _ _ _ _ _ _ _ _ _ _ _ _ 0 [(0, .ref o), (1, .int (nI 0))] []
  refine g_iload_n (q := 1) dX5_portOf_0 rfl rfl ?_
  refine g_ifN_ne (q := 4) (t := 11) dX5_portOf_1 rfl (by decide) (by omega) (fun c => absurd c (by omega)) (fun _ => ?_)
  refine g_aload_n (q := 5) dX5_portOf_4 rfl rfl ?_
  refine gb_getf (q := 8) (j := 0) (i := 0) dX5_portOf_5 rfl fl_X5_12 hB rfl rfl rfl rfl ?_
  refine g_goto (q := 15) dX5_portOf_8 (by decide) ?_
  exact g_aret dX5_portOf_15 rfl (Or.inl ⟨_, rfl⟩) (Or.inr ⟨_, rfl⟩) ⟨rfl, rfl⟩
set_option maxRecDepth 20000 in
set_option maxHeartbeats 1000000 in
theorem c_portOf1 {l : Launch} {E : bz_E} {L : List Nat} {g : Nat → va_E} {o : Nat} {r0 : SR} (hH : bz_H L g o (b_Sit E o r0)) : bz_K l E mX5_portOf 0 [.ref o, .int (nI 1)] L g (fun r g1 => r = some (.ref (o + 14)) ∧ g1 = g) := by
  refine bz_K.of (by decide) (bz_le rfl) (fun sz => ?_)
  have hB := bz_B.rf (bz_W.one hH)
  show bz_G _ _ _ _ _ _ _ _ _ _ _ _ 0 [(0, .ref o), (1, .int (nI 1))] []
  refine g_iload_n (q := 1) dX5_portOf_0 rfl rfl ?_
  refine g_ifN_ne (q := 4) (t := 11) dX5_portOf_1 rfl (by decide) (by omega) (fun _ => ?_) (fun c => absurd c (by omega))
  refine g_aload_n (q := 12) dX5_portOf_11 rfl rfl ?_
  refine gb_getf (q := 15) (j := 0) (i := 0) dX5_portOf_12 rfl fl_X5_18 hB rfl rfl rfl rfl ?_
  exact g_aret dX5_portOf_15 rfl (Or.inl ⟨_, rfl⟩) (Or.inr ⟨_, rfl⟩) ⟨rfl, rfl⟩
set_option maxRecDepth 20000 in
set_option maxHeartbeats 1000000 in
theorem c_firstReady0 {l : Launch} {E : bz_E} {L : List Nat} {g : Nat → va_E} {o p : Nat} {r0 : SR} {σ : Si} {pl : Pl} {zs cs ts ws v0 i0 v1 i1 : Nat → Int32} {n0 n1 sp tc : Int32} (hr0 : s_rep r0.2.2.1 σ.2.1) (hr1 : s_rep r0.2.2.2 σ.2.2) (hp : s_lpl zs cs ts ws i0 n0 i1 n1 sp tc pl) (hW2 : bz_W L g [(o, b_Sit E o r0), (p, (b_Plan E p zs cs ts ws v0 i0 n0 v1 i1 n1 sp tc))]) : bz_K l E mX5_firstReady 2 [.ref o, .ref p, .int (nI 0)] L g (fun r g1 => r = some (.int (match (s_next pl.2.2.1 (fun k => pl.2.1 (4 + k)) σ.2.2.2.1 [] σ.2.1.1) with | some i => nI i | none => -1)) ∧ g1 = g) := by
  refine bz_K.of (by decide) (bz_le rfl) (fun sz => ?_)
  show bz_G _ _ _ _ _ _ _ _ _ _ _ _ 0 [(0, .ref o), (1, .ref p), (2, .int (nI 0))] []
  obtain ⟨nw, mv, ⟨fq, cq, zq, fw, cw, zw, s, wn, cm, wd, mem, a, b, c⟩, ⟨fq1, cq1, zq1, fw1, cw1, zw1, s1, wn1, cm1, wd1, mem1, a1, b1, c1⟩⟩ := r0
  have z0 := hr0.2.1
  have z1 := hr1.2.1
  dsimp only at z0 z1 hr0 hr1
  subst z0; subst z1
  have hB := bz_B.rf hW2
  have hQl := hr0.2.2.1.len
  have K : ∀ (m pre : List Tx), pre ++ m = σ.2.1.1 → s_next pl.2.2.1 (fun k => pl.2.1 (4 + k)) σ.2.2.2.1 pre m = (s_next pl.2.2.1 (fun k => pl.2.1 (4 + k)) σ.2.2.2.1 [] σ.2.1.1) → bz_G l E mX5_firstReady (bz_R 2 0 0) L sz (bz_Fm E L sz (fun r g1 => r = some (.int (match (s_next pl.2.2.1 (fun k => pl.2.1 (4 + k)) σ.2.2.2.1 [] σ.2.1.1) with | some i => nI i | none => -1)) ∧ g1 = g)) sz 0 0 L g 27 [(6, .int (nI pre.length)), (5, .int (nI (s_ek pre))), (4, .ref (o + 14 + 4)), (3, .ref (o + 1 + 1)), (0, .ref o), (1, .ref p), (2, .int (nI 0))] [] := by
    intro m
    induction m with
    | nil =>
      intro pre hpr hrun
      have hle : pre.length = σ.2.1.1.length := by rw [← hpr]; simp
      refine g_iload (q := 29) dX5_firstReady_27 rfl rfl ?_
      refine g_aload_n (q := 30) dX5_firstReady_29 rfl rfl ?_
      refine gb_getf (q := 33) (j := 0) (i := 2) dX5_firstReady_30 rfl fl_X5_37 hB rfl rfl rfl rfl ?_
      refine g_icmpN_ge (q := 36) (t := 116) dX5_firstReady_33 rfl (by decide) (by omega) (by omega) (fun _ => ?_) (fun c => absurd c (by omega))
      refine g_iconst (q := 117) (v := (-1)) dX5_firstReady_116 rfl (by decide) ?_
      exact g_iret dX5_firstReady_117 rfl (⟨by rw [← hrun]; rfl, rfl⟩)
    | cons x m ih =>
      intro pre hpr hrun
      have hle : pre.length < σ.2.1.1.length := by rw [← hpr]; simp
      have hpx : σ.2.1.1[pre.length]? = some x := by rw [← hpr]; exact s_mid
      have hx := hr0.1.1 pre.length x hpx
      have hxo := hr0.2.2.1.1 x (List.mem_of_getElem? hpx)
      have hxk := hxo.1
      have hp4 : ∀ y ∈ pre, tK y < 4 := fun y hy => (hr0.2.2.1.1 y (by rw [← hpr]; exact List.mem_append_left _ hy)).1
      have he16 := s_ek_lt pre hp4
      have hb16 := s_bk_lt pl.2.2.1 (tK x) (tR x) 4
      refine g_iload (q := 29) dX5_firstReady_27 rfl rfl ?_
      refine g_aload_n (q := 30) dX5_firstReady_29 rfl rfl ?_
      refine gb_getf (q := 33) (j := 0) (i := 2) dX5_firstReady_30 rfl fl_X5_37 hB rfl rfl rfl rfl ?_
      refine g_icmpN_ge (q := 36) (t := 116) dX5_firstReady_33 rfl (by decide) (by omega) (by omega) (fun c => absurd c (by omega)) (fun _ => ?_)
      refine g_aload_n (q := 37) dX5_firstReady_36 rfl rfl ?_
      refine g_iload (q := 39) dX5_firstReady_37 rfl rfl ?_
      refine g_iconst (q := 40) (v := (nI 0)) dX5_firstReady_39 rfl (by decide) ?_
      refine gb_callV (q := 43) (j := 0) (i := 2) dX5_firstReady_40 rfl kv_X5_101 (c_get (x := 0) (by omega) ((hB.1.at (j := 0) rfl).sub 2 rfl)) rfl (by decide) hB rfl rfl rfl rfl (bz_le rfl) (by decide) (by decide) (fun r g1 hQ => ?_)
      obtain ⟨rfl, hg⟩ := hQ
      have hg := hg.symm
      subst hg
      refine g_eqi (v := nI (tK x)) (hx.1) ?_
      refine g_istore (q := 45) dX5_firstReady_43 rfl (by decide) rfl ?_
      refine g_aload_n (q := 46) dX5_firstReady_45 rfl rfl ?_
      refine g_iload (q := 48) dX5_firstReady_46 rfl rfl ?_
      refine g_aload_n (q := 49) dX5_firstReady_48 rfl rfl ?_
      refine g_iload (q := 51) dX5_firstReady_49 rfl rfl ?_
      refine gb_callV (q := 54) (j := 0) (i := 2) dX5_firstReady_51 rfl kv_X5_104 (c_isRelaxed (p := pre.length) (by omega) ((hB.1.at (j := 0) rfl).sub 2 rfl)) rfl (by decide) hB rfl rfl rfl rfl (bz_le rfl) (by decide) (by decide) (fun r g1 hQ => ?_)
      obtain ⟨rfl, hg⟩ := hQ
      have hg := hg.symm
      subst hg
      refine g_eqi (v := tB (tR x)) (tB_if hx.2.2.1) ?_
      refine gb_callV (q := 57) (j := 1) (i := 0) dX5_firstReady_54 rfl kv_X5_108 (c_blockingKinds (rx := tR x) hxo.1 hp.2.1 (hB.1.at (j := 1) rfl)) rfl (by decide) hB rfl rfl rfl rfl (bz_le rfl) (by decide) (by decide) (fun r g1 hQ => ?_)
      obtain ⟨rfl, hg⟩ := hQ
      have hg := hg.symm
      subst hg
      refine g_eqi (v := nI (s_bk pl.2.2.1 (tK x) (tR x) 4)) (rfl) ?_
      refine g_istore (q := 59) dX5_firstReady_57 rfl (by decide) rfl ?_
      refine g_aload (q := 61) dX5_firstReady_59 rfl rfl ?_
      refine g_iload (q := 63) dX5_firstReady_61 rfl rfl ?_
      refine gb_callV (q := 66) (j := 0) (i := 18) dX5_firstReady_63 rfl kv_X5_112 (c_countOf (k := tK x) hxo.1 ((hB.1.at (j := 0) rfl).sub 18 rfl)) rfl (by decide) hB rfl rfl rfl rfl (bz_le rfl) (by decide) (by decide) (fun r g1 hQ => ?_)
      obtain ⟨rfl, hg⟩ := hQ
      have hg := hg.symm
      subst hg
      refine g_eqi (v := nI (s_cnt (tK x) σ.2.2.2.1)) (hr1.2.2.2.1.2 (tK x) hxo.1) ?_
      refine g_aload_n (q := 67) dX5_firstReady_66 rfl rfl ?_
      refine g_iconst (q := 68) (v := (nI 1)) dX5_firstReady_67 rfl (by decide) ?_
      refine g_iload_n (q := 69) dX5_firstReady_68 rfl rfl ?_
      refine g_isub (q := 70) dX5_firstReady_69 rfl ?_
      refine g_iload (q := 72) dX5_firstReady_70 rfl rfl ?_
      refine gb_callV (q := 75) (j := 1) (i := 0) dX5_firstReady_72 rfl kv_X5_115 (c_creditsOf (s := 1) (k := tK x) (by omega) (hB.1.at (j := 1) rfl)) rfl (by decide) hB rfl rfl rfl rfl (bz_le rfl) (by decide) (by decide) (fun r g1 hQ => ?_)
      obtain ⟨rfl, hg⟩ := hQ
      have hg := hg.symm
      subst hg
      refine g_eqi (v := nI (pl.2.1 (4 + tK x))) (by rw [show 1 * 4 + tK x = 4 + tK x by omega]; exact (hp.1 _ (by omega)).2.2.2.1) ?_
      refine g_icmpN_ge (q := 78) (t := 82) dX5_firstReady_75 rfl (by decide) (by have := hr1.2.2.2.2.2.1.2 (tK x) hxo.1; omega) (by have := (hp.1 (4 + tK x) (by omega)).2.2.2.2; omega) (fun c_75 => ?_) (fun c_75 => ?_)
      · refine g_iconst (q := 83) (v := (nI 0)) dX5_firstReady_82 rfl (by decide) ?_
        refine g_istore (q := 85) dX5_firstReady_83 rfl (by decide) rfl ?_
        refine g_iload (q := 87) dX5_firstReady_85 rfl rfl ?_
        refine g_iload (q := 89) dX5_firstReady_87 rfl rfl ?_
        refine g_iand (q := 90) dX5_firstReady_89 rfl ?_
        refine g_eqi (v := nI (s_bk pl.2.2.1 (tK x) (tR x) 4 &&& s_ek pre)) ((bz_and16 _ hb16 _ he16).1) ?_
        refine g_ifN_ne (q := 93) (t := 101) dX5_firstReady_90 rfl (by decide) (by have := (bz_and16 _ hb16 _ he16).2; omega) (fun c_90 => ?_) (fun c_90 => ?_)
        · refine g_iload (q := 103) dX5_firstReady_101 rfl rfl ?_
          refine g_iconst (q := 104) (v := (nI 1)) dX5_firstReady_103 rfl (by decide) ?_
          refine g_iload (q := 106) dX5_firstReady_104 rfl rfl ?_
          refine g_ishl (q := 107) dX5_firstReady_106 rfl ?_
          refine g_ior (q := 108) dX5_firstReady_107 rfl ?_
          refine g_eqi (v := nI (s_ek pre ||| 2 ^ tK x)) (s_ekbit he16 hxo.1) ?_
          refine g_istore (q := 110) dX5_firstReady_108 rfl (by decide) rfl ?_
          refine g_iincN (q := 113) (c := 1) dX5_firstReady_110 rfl (by decide) rfl rfl (by decide) ?_
          refine g_goto (q := 27) dX5_firstReady_113 (by decide) ?_
          refine g_lvs (lv1 := [(6, .int (nI (pre.length + 1))), (5, .int (nI (s_ek pre ||| 2 ^ tK x))), (4, .ref (o + 14 + 4)), (3, .ref (o + 1 + 1)), (0, .ref o), (1, .ref p), (2, .int (nI 0))]) ⟨rfl, rfl, rfl, rfl, rfl, rfl, rfl, trivial⟩ ?_
          rw [← s_ek_app]
          refine g_lvs (lv1 := [(6, .int (nI (pre ++ [x]).length)), (5, .int (nI (s_ek (pre ++ [x])))), (4, .ref (o + 14 + 4)), (3, .ref (o + 1 + 1)), (0, .ref o), (1, .ref p), (2, .int (nI 0))]) ⟨by rw [List.length_append]; rfl, rfl, rfl, rfl, rfl, rfl, rfl, trivial⟩ ?_
          exact ih (pre ++ [x]) (by rw [List.append_assoc]; exact hpr) (by rw [← hrun, s_next, if_neg (by simp only [Bool.and_eq_true, decide_eq_true_eq, ← s_bkek hp4]; omega)])
        · refine g_iload (q := 95) dX5_firstReady_93 rfl rfl ?_
          refine g_ifN_eq (q := 98) (t := 101) dX5_firstReady_95 rfl (by decide) (by omega) (fun _ => ?_) (fun c => absurd c (by omega))
          refine g_iload (q := 103) dX5_firstReady_101 rfl rfl ?_
          refine g_iconst (q := 104) (v := (nI 1)) dX5_firstReady_103 rfl (by decide) ?_
          refine g_iload (q := 106) dX5_firstReady_104 rfl rfl ?_
          refine g_ishl (q := 107) dX5_firstReady_106 rfl ?_
          refine g_ior (q := 108) dX5_firstReady_107 rfl ?_
          refine g_eqi (v := nI (s_ek pre ||| 2 ^ tK x)) (s_ekbit he16 hxo.1) ?_
          refine g_istore (q := 110) dX5_firstReady_108 rfl (by decide) rfl ?_
          refine g_iincN (q := 113) (c := 1) dX5_firstReady_110 rfl (by decide) rfl rfl (by decide) ?_
          refine g_goto (q := 27) dX5_firstReady_113 (by decide) ?_
          refine g_lvs (lv1 := [(6, .int (nI (pre.length + 1))), (5, .int (nI (s_ek pre ||| 2 ^ tK x))), (4, .ref (o + 14 + 4)), (3, .ref (o + 1 + 1)), (0, .ref o), (1, .ref p), (2, .int (nI 0))]) ⟨rfl, rfl, rfl, rfl, rfl, rfl, rfl, trivial⟩ ?_
          rw [← s_ek_app]
          refine g_lvs (lv1 := [(6, .int (nI (pre ++ [x]).length)), (5, .int (nI (s_ek (pre ++ [x])))), (4, .ref (o + 14 + 4)), (3, .ref (o + 1 + 1)), (0, .ref o), (1, .ref p), (2, .int (nI 0))]) ⟨by rw [List.length_append]; rfl, rfl, rfl, rfl, rfl, rfl, rfl, trivial⟩ ?_
          exact ih (pre ++ [x]) (by rw [List.append_assoc]; exact hpr) (by rw [← hrun, s_next, if_neg (by simp only [Bool.and_eq_true, decide_eq_true_eq, ← s_bkek hp4]; omega)])
      · refine g_iconst (q := 79) (v := (nI 1)) dX5_firstReady_78 rfl (by decide) ?_
        refine g_goto (q := 83) dX5_firstReady_79 (by decide) ?_
        refine g_istore (q := 85) dX5_firstReady_83 rfl (by decide) rfl ?_
        refine g_iload (q := 87) dX5_firstReady_85 rfl rfl ?_
        refine g_iload (q := 89) dX5_firstReady_87 rfl rfl ?_
        refine g_iand (q := 90) dX5_firstReady_89 rfl ?_
        refine g_eqi (v := nI (s_bk pl.2.2.1 (tK x) (tR x) 4 &&& s_ek pre)) ((bz_and16 _ hb16 _ he16).1) ?_
        refine g_ifN_ne (q := 93) (t := 101) dX5_firstReady_90 rfl (by decide) (by have := (bz_and16 _ hb16 _ he16).2; omega) (fun c_90 => ?_) (fun c_90 => ?_)
        · refine g_iload (q := 103) dX5_firstReady_101 rfl rfl ?_
          refine g_iconst (q := 104) (v := (nI 1)) dX5_firstReady_103 rfl (by decide) ?_
          refine g_iload (q := 106) dX5_firstReady_104 rfl rfl ?_
          refine g_ishl (q := 107) dX5_firstReady_106 rfl ?_
          refine g_ior (q := 108) dX5_firstReady_107 rfl ?_
          refine g_eqi (v := nI (s_ek pre ||| 2 ^ tK x)) (s_ekbit he16 hxo.1) ?_
          refine g_istore (q := 110) dX5_firstReady_108 rfl (by decide) rfl ?_
          refine g_iincN (q := 113) (c := 1) dX5_firstReady_110 rfl (by decide) rfl rfl (by decide) ?_
          refine g_goto (q := 27) dX5_firstReady_113 (by decide) ?_
          refine g_lvs (lv1 := [(6, .int (nI (pre.length + 1))), (5, .int (nI (s_ek pre ||| 2 ^ tK x))), (4, .ref (o + 14 + 4)), (3, .ref (o + 1 + 1)), (0, .ref o), (1, .ref p), (2, .int (nI 0))]) ⟨rfl, rfl, rfl, rfl, rfl, rfl, rfl, trivial⟩ ?_
          rw [← s_ek_app]
          refine g_lvs (lv1 := [(6, .int (nI (pre ++ [x]).length)), (5, .int (nI (s_ek (pre ++ [x])))), (4, .ref (o + 14 + 4)), (3, .ref (o + 1 + 1)), (0, .ref o), (1, .ref p), (2, .int (nI 0))]) ⟨by rw [List.length_append]; rfl, rfl, rfl, rfl, rfl, rfl, rfl, trivial⟩ ?_
          exact ih (pre ++ [x]) (by rw [List.append_assoc]; exact hpr) (by rw [← hrun, s_next, if_neg (by simp only [Bool.and_eq_true, decide_eq_true_eq, ← s_bkek hp4]; omega)])
        · refine g_iload (q := 95) dX5_firstReady_93 rfl rfl ?_
          refine g_ifN_eq (q := 98) (t := 101) dX5_firstReady_95 rfl (by decide) (by omega) (fun c => absurd c (by omega)) (fun _ => ?_)
          refine g_iload (q := 100) dX5_firstReady_98 rfl rfl ?_
          exact g_iret dX5_firstReady_100 rfl (⟨by rw [← hrun, s_next, if_pos (by simp only [Bool.and_eq_true, decide_eq_true_eq, ← s_bkek hp4]; exact ⟨c_90, by omega⟩)], rfl⟩)
  refine g_aload_n (q := 1) dX5_firstReady_0 rfl rfl ?_
  refine g_iload_n (q := 2) dX5_firstReady_1 rfl rfl ?_
  refine gb_callV (q := 5) (j := 0) (i := 0) dX5_firstReady_2 rfl kv_X5_89 (c_portOf0 (hB.1.at (j := 0) rfl)) rfl (by decide) hB rfl rfl rfl rfl (bz_le rfl) (by decide) (by decide) (fun r g1 hQ => ?_)
  obtain ⟨rfl, hg⟩ := hQ
  have hg := hg.symm
  subst hg
  refine gb_getf (q := 8) (j := 0) (i := 1) dX5_firstReady_5 rfl fl_X5_33 hB rfl rfl rfl rfl ?_
  refine g_astore_n (q := 9) rfl dX5_firstReady_8 rfl (by decide) rfl ?_
  refine g_aload_n (q := 10) dX5_firstReady_9 rfl rfl ?_
  refine g_iconst (q := 11) (v := (nI 1)) dX5_firstReady_10 rfl (by decide) ?_
  refine g_iload_n (q := 12) dX5_firstReady_11 rfl rfl ?_
  refine g_isubN (q := 13) dX5_firstReady_12 rfl (by decide) ?_
  refine gb_callV (q := 16) (j := 0) (i := 0) dX5_firstReady_13 rfl kv_X5_89 (c_portOf1 (hB.1.at (j := 0) rfl)) rfl (by decide) hB rfl rfl rfl rfl (bz_le rfl) (by decide) (by decide) (fun r g1 hQ => ?_)
  obtain ⟨rfl, hg⟩ := hQ
  have hg := hg.symm
  subst hg
  refine gb_getf (q := 19) (j := 0) (i := 14) dX5_firstReady_16 rfl fl_X5_42 hB rfl rfl rfl rfl ?_
  refine g_astore (q := 21) dX5_firstReady_19 rfl (by decide) rfl ?_
  refine g_iconst (q := 22) (v := (nI 0)) dX5_firstReady_21 rfl (by decide) ?_
  refine g_istore (q := 24) dX5_firstReady_22 rfl (by decide) rfl ?_
  refine g_iconst (q := 25) (v := (nI 0)) dX5_firstReady_24 rfl (by decide) ?_
  refine g_istore (q := 27) dX5_firstReady_25 rfl (by decide) rfl ?_
  refine g_lvs (lv1 := [(6, .int (nI 0)), (5, .int (nI (0))), (4, .ref (o + 14 + 4)), (3, .ref (o + 1 + 1)), (0, .ref o), (1, .ref p), (2, .int (nI 0))]) ⟨rfl, rfl, rfl, rfl, rfl, rfl, rfl, trivial⟩ ?_
  exact K σ.2.1.1 [] rfl rfl
set_option maxRecDepth 20000 in
set_option maxHeartbeats 1000000 in
theorem c_firstReady1 {l : Launch} {E : bz_E} {L : List Nat} {g : Nat → va_E} {o p : Nat} {r0 : SR} {σ : Si} {pl : Pl} {zs cs ts ws v0 i0 v1 i1 : Nat → Int32} {n0 n1 sp tc : Int32} (hr0 : s_rep r0.2.2.1 σ.2.1) (hr1 : s_rep r0.2.2.2 σ.2.2) (hp : s_lpl zs cs ts ws i0 n0 i1 n1 sp tc pl) (hW2 : bz_W L g [(o, b_Sit E o r0), (p, (b_Plan E p zs cs ts ws v0 i0 n0 v1 i1 n1 sp tc))]) : bz_K l E mX5_firstReady 2 [.ref o, .ref p, .int (nI 1)] L g (fun r g1 => r = some (.int (match (s_next pl.2.2.1 (fun k => pl.2.1 (0 + k)) σ.2.1.2.1 [] σ.2.2.1) with | some i => nI i | none => -1)) ∧ g1 = g) := by
  refine bz_K.of (by decide) (bz_le rfl) (fun sz => ?_)
  show bz_G _ _ _ _ _ _ _ _ _ _ _ _ 0 [(0, .ref o), (1, .ref p), (2, .int (nI 1))] []
  obtain ⟨nw, mv, ⟨fq, cq, zq, fw, cw, zw, s, wn, cm, wd, mem, a, b, c⟩, ⟨fq1, cq1, zq1, fw1, cw1, zw1, s1, wn1, cm1, wd1, mem1, a1, b1, c1⟩⟩ := r0
  have z0 := hr0.2.1
  have z1 := hr1.2.1
  dsimp only at z0 z1 hr0 hr1
  subst z0; subst z1
  have hB := bz_B.rf hW2
  have hQl := hr1.2.2.1.len
  have K : ∀ (m pre : List Tx), pre ++ m = σ.2.2.1 → s_next pl.2.2.1 (fun k => pl.2.1 (0 + k)) σ.2.1.2.1 pre m = (s_next pl.2.2.1 (fun k => pl.2.1 (0 + k)) σ.2.1.2.1 [] σ.2.2.1) → bz_G l E mX5_firstReady (bz_R 2 0 0) L sz (bz_Fm E L sz (fun r g1 => r = some (.int (match (s_next pl.2.2.1 (fun k => pl.2.1 (0 + k)) σ.2.1.2.1 [] σ.2.2.1) with | some i => nI i | none => -1)) ∧ g1 = g)) sz 0 0 L g 27 [(6, .int (nI pre.length)), (5, .int (nI (s_ek pre))), (4, .ref (o + 1 + 4)), (3, .ref (o + 14 + 1)), (0, .ref o), (1, .ref p), (2, .int (nI 1))] [] := by
    intro m
    induction m with
    | nil =>
      intro pre hpr hrun
      have hle : pre.length = σ.2.2.1.length := by rw [← hpr]; simp
      refine g_iload (q := 29) dX5_firstReady_27 rfl rfl ?_
      refine g_aload_n (q := 30) dX5_firstReady_29 rfl rfl ?_
      refine gb_getf (q := 33) (j := 0) (i := 15) dX5_firstReady_30 rfl fl_X5_37 hB rfl rfl rfl rfl ?_
      refine g_icmpN_ge (q := 36) (t := 116) dX5_firstReady_33 rfl (by decide) (by omega) (by omega) (fun _ => ?_) (fun c => absurd c (by omega))
      refine g_iconst (q := 117) (v := (-1)) dX5_firstReady_116 rfl (by decide) ?_
      exact g_iret dX5_firstReady_117 rfl (⟨by rw [← hrun]; rfl, rfl⟩)
    | cons x m ih =>
      intro pre hpr hrun
      have hle : pre.length < σ.2.2.1.length := by rw [← hpr]; simp
      have hpx : σ.2.2.1[pre.length]? = some x := by rw [← hpr]; exact s_mid
      have hx := hr1.1.1 pre.length x hpx
      have hxo := hr1.2.2.1.1 x (List.mem_of_getElem? hpx)
      have hxk := hxo.1
      have hp4 : ∀ y ∈ pre, tK y < 4 := fun y hy => (hr1.2.2.1.1 y (by rw [← hpr]; exact List.mem_append_left _ hy)).1
      have he16 := s_ek_lt pre hp4
      have hb16 := s_bk_lt pl.2.2.1 (tK x) (tR x) 4
      refine g_iload (q := 29) dX5_firstReady_27 rfl rfl ?_
      refine g_aload_n (q := 30) dX5_firstReady_29 rfl rfl ?_
      refine gb_getf (q := 33) (j := 0) (i := 15) dX5_firstReady_30 rfl fl_X5_37 hB rfl rfl rfl rfl ?_
      refine g_icmpN_ge (q := 36) (t := 116) dX5_firstReady_33 rfl (by decide) (by omega) (by omega) (fun c => absurd c (by omega)) (fun _ => ?_)
      refine g_aload_n (q := 37) dX5_firstReady_36 rfl rfl ?_
      refine g_iload (q := 39) dX5_firstReady_37 rfl rfl ?_
      refine g_iconst (q := 40) (v := (nI 0)) dX5_firstReady_39 rfl (by decide) ?_
      refine gb_callV (q := 43) (j := 0) (i := 15) dX5_firstReady_40 rfl kv_X5_101 (c_get (x := 0) (by omega) ((hB.1.at (j := 0) rfl).sub 15 rfl)) rfl (by decide) hB rfl rfl rfl rfl (bz_le rfl) (by decide) (by decide) (fun r g1 hQ => ?_)
      obtain ⟨rfl, hg⟩ := hQ
      have hg := hg.symm
      subst hg
      refine g_eqi (v := nI (tK x)) (hx.1) ?_
      refine g_istore (q := 45) dX5_firstReady_43 rfl (by decide) rfl ?_
      refine g_aload_n (q := 46) dX5_firstReady_45 rfl rfl ?_
      refine g_iload (q := 48) dX5_firstReady_46 rfl rfl ?_
      refine g_aload_n (q := 49) dX5_firstReady_48 rfl rfl ?_
      refine g_iload (q := 51) dX5_firstReady_49 rfl rfl ?_
      refine gb_callV (q := 54) (j := 0) (i := 15) dX5_firstReady_51 rfl kv_X5_104 (c_isRelaxed (p := pre.length) (by omega) ((hB.1.at (j := 0) rfl).sub 15 rfl)) rfl (by decide) hB rfl rfl rfl rfl (bz_le rfl) (by decide) (by decide) (fun r g1 hQ => ?_)
      obtain ⟨rfl, hg⟩ := hQ
      have hg := hg.symm
      subst hg
      refine g_eqi (v := tB (tR x)) (tB_if hx.2.2.1) ?_
      refine gb_callV (q := 57) (j := 1) (i := 0) dX5_firstReady_54 rfl kv_X5_108 (c_blockingKinds (rx := tR x) hxo.1 hp.2.1 (hB.1.at (j := 1) rfl)) rfl (by decide) hB rfl rfl rfl rfl (bz_le rfl) (by decide) (by decide) (fun r g1 hQ => ?_)
      obtain ⟨rfl, hg⟩ := hQ
      have hg := hg.symm
      subst hg
      refine g_eqi (v := nI (s_bk pl.2.2.1 (tK x) (tR x) 4)) (rfl) ?_
      refine g_istore (q := 59) dX5_firstReady_57 rfl (by decide) rfl ?_
      refine g_aload (q := 61) dX5_firstReady_59 rfl rfl ?_
      refine g_iload (q := 63) dX5_firstReady_61 rfl rfl ?_
      refine gb_callV (q := 66) (j := 0) (i := 5) dX5_firstReady_63 rfl kv_X5_112 (c_countOf (k := tK x) hxo.1 ((hB.1.at (j := 0) rfl).sub 5 rfl)) rfl (by decide) hB rfl rfl rfl rfl (bz_le rfl) (by decide) (by decide) (fun r g1 hQ => ?_)
      obtain ⟨rfl, hg⟩ := hQ
      have hg := hg.symm
      subst hg
      refine g_eqi (v := nI (s_cnt (tK x) σ.2.1.2.1)) (hr0.2.2.2.1.2 (tK x) hxo.1) ?_
      refine g_aload_n (q := 67) dX5_firstReady_66 rfl rfl ?_
      refine g_iconst (q := 68) (v := (nI 1)) dX5_firstReady_67 rfl (by decide) ?_
      refine g_iload_n (q := 69) dX5_firstReady_68 rfl rfl ?_
      refine g_isub (q := 70) dX5_firstReady_69 rfl ?_
      refine g_iload (q := 72) dX5_firstReady_70 rfl rfl ?_
      refine gb_callV (q := 75) (j := 1) (i := 0) dX5_firstReady_72 rfl kv_X5_115 (c_creditsOf (s := 0) (k := tK x) (by omega) (hB.1.at (j := 1) rfl)) rfl (by decide) hB rfl rfl rfl rfl (bz_le rfl) (by decide) (by decide) (fun r g1 hQ => ?_)
      obtain ⟨rfl, hg⟩ := hQ
      have hg := hg.symm
      subst hg
      refine g_eqi (v := nI (pl.2.1 (0 + tK x))) (by rw [show 0 * 4 + tK x = 0 + tK x by omega]; exact (hp.1 _ (by omega)).2.2.2.1) ?_
      refine g_icmpN_ge (q := 78) (t := 82) dX5_firstReady_75 rfl (by decide) (by have := hr0.2.2.2.2.2.1.2 (tK x) hxo.1; omega) (by have := (hp.1 (0 + tK x) (by omega)).2.2.2.2; omega) (fun c_75 => ?_) (fun c_75 => ?_)
      · refine g_iconst (q := 83) (v := (nI 0)) dX5_firstReady_82 rfl (by decide) ?_
        refine g_istore (q := 85) dX5_firstReady_83 rfl (by decide) rfl ?_
        refine g_iload (q := 87) dX5_firstReady_85 rfl rfl ?_
        refine g_iload (q := 89) dX5_firstReady_87 rfl rfl ?_
        refine g_iand (q := 90) dX5_firstReady_89 rfl ?_
        refine g_eqi (v := nI (s_bk pl.2.2.1 (tK x) (tR x) 4 &&& s_ek pre)) ((bz_and16 _ hb16 _ he16).1) ?_
        refine g_ifN_ne (q := 93) (t := 101) dX5_firstReady_90 rfl (by decide) (by have := (bz_and16 _ hb16 _ he16).2; omega) (fun c_90 => ?_) (fun c_90 => ?_)
        · refine g_iload (q := 103) dX5_firstReady_101 rfl rfl ?_
          refine g_iconst (q := 104) (v := (nI 1)) dX5_firstReady_103 rfl (by decide) ?_
          refine g_iload (q := 106) dX5_firstReady_104 rfl rfl ?_
          refine g_ishl (q := 107) dX5_firstReady_106 rfl ?_
          refine g_ior (q := 108) dX5_firstReady_107 rfl ?_
          refine g_eqi (v := nI (s_ek pre ||| 2 ^ tK x)) (s_ekbit he16 hxo.1) ?_
          refine g_istore (q := 110) dX5_firstReady_108 rfl (by decide) rfl ?_
          refine g_iincN (q := 113) (c := 1) dX5_firstReady_110 rfl (by decide) rfl rfl (by decide) ?_
          refine g_goto (q := 27) dX5_firstReady_113 (by decide) ?_
          refine g_lvs (lv1 := [(6, .int (nI (pre.length + 1))), (5, .int (nI (s_ek pre ||| 2 ^ tK x))), (4, .ref (o + 1 + 4)), (3, .ref (o + 14 + 1)), (0, .ref o), (1, .ref p), (2, .int (nI 1))]) ⟨rfl, rfl, rfl, rfl, rfl, rfl, rfl, trivial⟩ ?_
          rw [← s_ek_app]
          refine g_lvs (lv1 := [(6, .int (nI (pre ++ [x]).length)), (5, .int (nI (s_ek (pre ++ [x])))), (4, .ref (o + 1 + 4)), (3, .ref (o + 14 + 1)), (0, .ref o), (1, .ref p), (2, .int (nI 1))]) ⟨by rw [List.length_append]; rfl, rfl, rfl, rfl, rfl, rfl, rfl, trivial⟩ ?_
          exact ih (pre ++ [x]) (by rw [List.append_assoc]; exact hpr) (by rw [← hrun, s_next, if_neg (by simp only [Bool.and_eq_true, decide_eq_true_eq, ← s_bkek hp4]; omega)])
        · refine g_iload (q := 95) dX5_firstReady_93 rfl rfl ?_
          refine g_ifN_eq (q := 98) (t := 101) dX5_firstReady_95 rfl (by decide) (by omega) (fun _ => ?_) (fun c => absurd c (by omega))
          refine g_iload (q := 103) dX5_firstReady_101 rfl rfl ?_
          refine g_iconst (q := 104) (v := (nI 1)) dX5_firstReady_103 rfl (by decide) ?_
          refine g_iload (q := 106) dX5_firstReady_104 rfl rfl ?_
          refine g_ishl (q := 107) dX5_firstReady_106 rfl ?_
          refine g_ior (q := 108) dX5_firstReady_107 rfl ?_
          refine g_eqi (v := nI (s_ek pre ||| 2 ^ tK x)) (s_ekbit he16 hxo.1) ?_
          refine g_istore (q := 110) dX5_firstReady_108 rfl (by decide) rfl ?_
          refine g_iincN (q := 113) (c := 1) dX5_firstReady_110 rfl (by decide) rfl rfl (by decide) ?_
          refine g_goto (q := 27) dX5_firstReady_113 (by decide) ?_
          refine g_lvs (lv1 := [(6, .int (nI (pre.length + 1))), (5, .int (nI (s_ek pre ||| 2 ^ tK x))), (4, .ref (o + 1 + 4)), (3, .ref (o + 14 + 1)), (0, .ref o), (1, .ref p), (2, .int (nI 1))]) ⟨rfl, rfl, rfl, rfl, rfl, rfl, rfl, trivial⟩ ?_
          rw [← s_ek_app]
          refine g_lvs (lv1 := [(6, .int (nI (pre ++ [x]).length)), (5, .int (nI (s_ek (pre ++ [x])))), (4, .ref (o + 1 + 4)), (3, .ref (o + 14 + 1)), (0, .ref o), (1, .ref p), (2, .int (nI 1))]) ⟨by rw [List.length_append]; rfl, rfl, rfl, rfl, rfl, rfl, rfl, trivial⟩ ?_
          exact ih (pre ++ [x]) (by rw [List.append_assoc]; exact hpr) (by rw [← hrun, s_next, if_neg (by simp only [Bool.and_eq_true, decide_eq_true_eq, ← s_bkek hp4]; omega)])
      · refine g_iconst (q := 79) (v := (nI 1)) dX5_firstReady_78 rfl (by decide) ?_
        refine g_goto (q := 83) dX5_firstReady_79 (by decide) ?_
        refine g_istore (q := 85) dX5_firstReady_83 rfl (by decide) rfl ?_
        refine g_iload (q := 87) dX5_firstReady_85 rfl rfl ?_
        refine g_iload (q := 89) dX5_firstReady_87 rfl rfl ?_
        refine g_iand (q := 90) dX5_firstReady_89 rfl ?_
        refine g_eqi (v := nI (s_bk pl.2.2.1 (tK x) (tR x) 4 &&& s_ek pre)) ((bz_and16 _ hb16 _ he16).1) ?_
        refine g_ifN_ne (q := 93) (t := 101) dX5_firstReady_90 rfl (by decide) (by have := (bz_and16 _ hb16 _ he16).2; omega) (fun c_90 => ?_) (fun c_90 => ?_)
        · refine g_iload (q := 103) dX5_firstReady_101 rfl rfl ?_
          refine g_iconst (q := 104) (v := (nI 1)) dX5_firstReady_103 rfl (by decide) ?_
          refine g_iload (q := 106) dX5_firstReady_104 rfl rfl ?_
          refine g_ishl (q := 107) dX5_firstReady_106 rfl ?_
          refine g_ior (q := 108) dX5_firstReady_107 rfl ?_
          refine g_eqi (v := nI (s_ek pre ||| 2 ^ tK x)) (s_ekbit he16 hxo.1) ?_
          refine g_istore (q := 110) dX5_firstReady_108 rfl (by decide) rfl ?_
          refine g_iincN (q := 113) (c := 1) dX5_firstReady_110 rfl (by decide) rfl rfl (by decide) ?_
          refine g_goto (q := 27) dX5_firstReady_113 (by decide) ?_
          refine g_lvs (lv1 := [(6, .int (nI (pre.length + 1))), (5, .int (nI (s_ek pre ||| 2 ^ tK x))), (4, .ref (o + 1 + 4)), (3, .ref (o + 14 + 1)), (0, .ref o), (1, .ref p), (2, .int (nI 1))]) ⟨rfl, rfl, rfl, rfl, rfl, rfl, rfl, trivial⟩ ?_
          rw [← s_ek_app]
          refine g_lvs (lv1 := [(6, .int (nI (pre ++ [x]).length)), (5, .int (nI (s_ek (pre ++ [x])))), (4, .ref (o + 1 + 4)), (3, .ref (o + 14 + 1)), (0, .ref o), (1, .ref p), (2, .int (nI 1))]) ⟨by rw [List.length_append]; rfl, rfl, rfl, rfl, rfl, rfl, rfl, trivial⟩ ?_
          exact ih (pre ++ [x]) (by rw [List.append_assoc]; exact hpr) (by rw [← hrun, s_next, if_neg (by simp only [Bool.and_eq_true, decide_eq_true_eq, ← s_bkek hp4]; omega)])
        · refine g_iload (q := 95) dX5_firstReady_93 rfl rfl ?_
          refine g_ifN_eq (q := 98) (t := 101) dX5_firstReady_95 rfl (by decide) (by omega) (fun c => absurd c (by omega)) (fun _ => ?_)
          refine g_iload (q := 100) dX5_firstReady_98 rfl rfl ?_
          exact g_iret dX5_firstReady_100 rfl (⟨by rw [← hrun, s_next, if_pos (by simp only [Bool.and_eq_true, decide_eq_true_eq, ← s_bkek hp4]; exact ⟨c_90, by omega⟩)], rfl⟩)
  refine g_aload_n (q := 1) dX5_firstReady_0 rfl rfl ?_
  refine g_iload_n (q := 2) dX5_firstReady_1 rfl rfl ?_
  refine gb_callV (q := 5) (j := 0) (i := 0) dX5_firstReady_2 rfl kv_X5_89 (c_portOf1 (hB.1.at (j := 0) rfl)) rfl (by decide) hB rfl rfl rfl rfl (bz_le rfl) (by decide) (by decide) (fun r g1 hQ => ?_)
  obtain ⟨rfl, hg⟩ := hQ
  have hg := hg.symm
  subst hg
  refine gb_getf (q := 8) (j := 0) (i := 14) dX5_firstReady_5 rfl fl_X5_33 hB rfl rfl rfl rfl ?_
  refine g_astore_n (q := 9) rfl dX5_firstReady_8 rfl (by decide) rfl ?_
  refine g_aload_n (q := 10) dX5_firstReady_9 rfl rfl ?_
  refine g_iconst (q := 11) (v := (nI 1)) dX5_firstReady_10 rfl (by decide) ?_
  refine g_iload_n (q := 12) dX5_firstReady_11 rfl rfl ?_
  refine g_isubN (q := 13) dX5_firstReady_12 rfl (by decide) ?_
  refine gb_callV (q := 16) (j := 0) (i := 0) dX5_firstReady_13 rfl kv_X5_89 (c_portOf0 (hB.1.at (j := 0) rfl)) rfl (by decide) hB rfl rfl rfl rfl (bz_le rfl) (by decide) (by decide) (fun r g1 hQ => ?_)
  obtain ⟨rfl, hg⟩ := hQ
  have hg := hg.symm
  subst hg
  refine gb_getf (q := 19) (j := 0) (i := 1) dX5_firstReady_16 rfl fl_X5_42 hB rfl rfl rfl rfl ?_
  refine g_astore (q := 21) dX5_firstReady_19 rfl (by decide) rfl ?_
  refine g_iconst (q := 22) (v := (nI 0)) dX5_firstReady_21 rfl (by decide) ?_
  refine g_istore (q := 24) dX5_firstReady_22 rfl (by decide) rfl ?_
  refine g_iconst (q := 25) (v := (nI 0)) dX5_firstReady_24 rfl (by decide) ?_
  refine g_istore (q := 27) dX5_firstReady_25 rfl (by decide) rfl ?_
  refine g_lvs (lv1 := [(6, .int (nI 0)), (5, .int (nI (0))), (4, .ref (o + 1 + 4)), (3, .ref (o + 14 + 1)), (0, .ref o), (1, .ref p), (2, .int (nI 1))]) ⟨rfl, rfl, rfl, rfl, rfl, rfl, rfl, trivial⟩ ?_
  exact K σ.2.2.1 [] rfl rfl
theorem nI_nm (i : Nat) (h : i < 2 ^ 31) : nI i ≠ -1 := by
  intro e
  have h1 := nI_toInt h
  rw [e] at h1
  have : (-1 : Int32).toInt = -1 := by decide
  omega
/-- behind a call on three blocks: one after the other -/
theorem bz_B.mid3 {L : List Nat} {g g1 : Nat → va_E} {o1 o2 o3 : Nat} {e1 e2 e3 es1 es2 : List va_E} (h0 : bz_H L g o1 es1) (h00 : bz_H L g o2 es2) (hl : es1.length = e1.length) (hl2 : es2.length = e2.length) (h : bz_B L g g1 [(o1, e1), (o2, e2), (o3, e3)]) : ∃ gm : Nat → va_E, bz_B L g gm [(o1, e1)] ∧ ∃ gn : Nat → va_E, bz_B L gm gn [(o2, e2)] ∧ bz_B L gn g1 [(o3, e3)] := by
  have hp := h.1.2
  unfold bz_ap at hp
  have hp1 := (List.pairwise_cons.mp hp).1
  have hp2 := (List.pairwise_cons.mp (List.pairwise_cons.mp hp).2).1
  have a12 := hp1 (o2, e2) (by simp)
  have a13 := hp1 (o3, e3) (by simp)
  have a23 := hp2 (o3, e3) (by simp)
  dsimp only at a12 a13 a23
  have hH1 := h.1.at (j := 0) rfl
  have hH2 := h.1.at (j := 1) rfl
  have hH3 := h.1.at (j := 2) rfl
  have hs : ∀ a, ¬ (o1 ≤ a ∧ a < o1 + e1.length) → ¬ (o2 ≤ a ∧ a < o2 + e2.length) → ¬ (o3 ≤ a ∧ a < o3 + e3.length) → g1 a = g a := fun a ha hb hc => h.2 a (fun r hr => by
    have hr2 : r = (o1, e1.length) ∨ r = (o2, e2.length) ∨ r = (o3, e3.length) := by simpa using hr
    rcases hr2 with hr2 | hr2 | hr2 <;> rw [hr2]
    · exact ha
    · exact hb
    · exact hc)
  refine ⟨fun a => if o1 ≤ a ∧ a < o1 + e1.length then g1 a else g a, ⟨bz_W.one (hH1.out (fun a h1 h2 => by rw [if_pos ⟨h1, h2⟩])), fun a ha => if_neg (ha (o1, e1.length) (by simp))⟩, fun a => if (o1 ≤ a ∧ a < o1 + e1.length) ∨ (o2 ≤ a ∧ a < o2 + e2.length) then g1 a else g a, ⟨bz_W.one (hH2.out (fun a h1 h2 => by rw [if_pos (Or.inr ⟨h1, h2⟩)])), fun a ha => ?_⟩, bz_W.one hH3, fun a ha => ?_⟩
  · have hb := ha (o2, e2.length) (by simp)
    dsimp only at hb ⊢
    by_cases c1 : o1 ≤ a ∧ a < o1 + e1.length
    · rw [if_pos c1, if_pos (Or.inl c1)]
    · rw [if_neg c1, if_neg (fun h => h.elim c1 hb)]
  · have hb := ha (o3, e3.length) (by simp)
    dsimp only at hb ⊢
    by_cases c1 : (o1 ≤ a ∧ a < o1 + e1.length) ∨ (o2 ≤ a ∧ a < o2 + e2.length)
    · rw [if_pos c1]
    · rw [if_neg c1]
      exact hs a (fun h => c1 (Or.inl h)) (fun h => c1 (Or.inr h)) hb
set_option maxRecDepth 20000 in
set_option maxHeartbeats 1000000 in
theorem c_forwardFrom0 {l : Launch} {E : bz_E} {L : List Nat} {g : Nat → va_E} {o p : Nat} {r0 : SR} {σ : Si} {pl : Pl} {zs cs ts ws v0 i0 v1 i1 : Nat → Int32} {n0 n1 sp tc : Int32} (hr0 : s_rep r0.2.2.1 σ.2.1) (hr1 : s_rep r0.2.2.2 σ.2.2) (hnw : r0.1 = nI σ.1) (hnow : σ.1 < 90000) (hq : ∀ x ∈ σ.2.1.1, tM x ≤ σ.1) (hp : s_lpl zs cs ts ws i0 n0 i1 n1 sp tc pl) (hW2 : bz_W L g [(o, b_Sit E o r0), (p, (b_Plan E p zs cs ts ws v0 i0 n0 v1 i1 n1 sp tc))]) : bz_K l E mX5_forwardFrom 4 [.ref o, .ref p, .int (nI 0)] L g (fun r g1 => r = some (.int (tB (s_fwd pl.2.2.1 (fun k => pl.2.1 (4 + k)) pl.2.2.2.2.2.2.2 σ.1 σ.2.1 σ.2.2).1)) ∧ ∃ (r1 : SR) (v1' : Nat → Int32), bz_B L g g1 [(o, b_Sit E o r1), (p, (b_Plan E p zs cs ts ws v0 i0 n0 v1' i1 n1 sp tc))] ∧ r1.1 = nI σ.1 ∧ r1.2.1 = r0.2.1 ∧ s_rep r1.2.2.1 (s_fwd pl.2.2.1 (fun k => pl.2.1 (4 + k)) pl.2.2.2.2.2.2.2 σ.1 σ.2.1 σ.2.2).2.1 ∧ s_rep r1.2.2.2 (s_fwd pl.2.2.1 (fun k => pl.2.1 (4 + k)) pl.2.2.2.2.2.2.2 σ.1 σ.2.1 σ.2.2).2.2) := by
  refine bz_K.of (by decide) (bz_le rfl) (fun sz => ?_)
  show bz_G _ _ _ _ _ _ _ _ _ _ _ _ 0 [(0, .ref o), (1, .ref p), (2, .int (nI 0))] []
  obtain ⟨nw, mv, pr0, pr1⟩ := r0
  dsimp only at hr0 hr1 hnw
  subst hnw
  generalize hr0e : ((nI σ.1, mv, pr0, pr1) : SR) = r0 at hW2
  have hr0e := hr0e.symm
  have hB := bz_B.rf hW2
  have hap : o + 27 ≤ p ∨ p + 11 ≤ o := by
    have := hW2.2
    unfold bz_ap at this
    exact (List.pairwise_cons.mp this).1 _ List.mem_cons_self
  cases hnx : (s_next pl.2.2.1 (fun k => pl.2.1 (4 + k)) σ.2.2.2.1 [] σ.2.1.1) with
  | none =>
    have hF : (s_fwd pl.2.2.1 (fun k => pl.2.1 (4 + k)) pl.2.2.2.2.2.2.2 σ.1 σ.2.1 σ.2.2) = (false, σ.2.1, σ.2.2) := by unfold s_fwd; rw [hnx]
    subst hr0e
    refine g_aload_n (q := 1) dX5_forwardFrom_0 rfl rfl ?_
    refine g_aload_n (q := 2) dX5_forwardFrom_1 rfl rfl ?_
    refine g_iload_n (q := 3) dX5_forwardFrom_2 rfl rfl ?_
    refine gb_callV (q := 6) (j := 0) (i := 0) dX5_forwardFrom_3 rfl kv_X5_85 (c_firstReady0 hr0 hr1 hp hB.1) rfl (by decide) hB rfl rfl rfl rfl (bz_le rfl) (by decide) (by decide) (fun r g1 hQ => ?_)
    obtain ⟨rfl, hg⟩ := hQ
    have hg := hg.symm
    subst hg
    rw [hnx]
    dsimp only
    refine g_istore_n (q := 7) rfl dX5_forwardFrom_6 rfl (by decide) rfl ?_
    refine g_iload_n (q := 8) dX5_forwardFrom_7 rfl rfl ?_
    refine g_iconst (q := 9) (v := (-1)) dX5_forwardFrom_8 rfl (by decide) ?_
    refine g_icmp_ne (q := 12) (t := 14) dX5_forwardFrom_9 rfl (by decide) (fun c => absurd c (by decide)) (fun _ => ?_)
    refine g_iconst (q := 13) (v := (nI 0)) dX5_forwardFrom_12 rfl (by decide) ?_
    exact g_zret dX5_forwardFrom_13 rfl rfl ⟨by rw [hF]; rfl, (nI σ.1, mv, pr0, pr1), v1, hB, rfl, rfl, by rw [hF]; exact ⟨hr0, hr1⟩⟩
  | some i =>
    obtain ⟨x, hx, hcr⟩ := s_next_spec _ _ _ hnx
    rw [List.nil_append] at hx
    have hF : (s_fwd pl.2.2.1 (fun k => pl.2.1 (4 + k)) pl.2.2.2.2.2.2.2 σ.1 σ.2.1 σ.2.2) = (true, (σ.2.1.1.eraseIdx i, σ.2.1.2.1, σ.2.1.2.2.1, σ.2.1.2.2.2.1, σ.2.1.2.2.2.2.1 + 1, σ.2.1.2.2.2.2.2.1 + i, σ.2.1.2.2.2.2.2.2 + (σ.1 - tM x)), (σ.2.2.1, σ.2.2.2.1 ++ [s_tm x (σ.1 + s_lat pl.2.2.2.2.2.2.2 x σ.1 + 1)], σ.2.2.2.2)) := by unfold s_fwd; rw [hnx]; dsimp only; rw [hx]
    have hxk := (hr0.2.2.1.1 x (List.mem_of_getElem? hx)).1
    have hl := hp.2.2.2.2.2.2.2.2
    have hl1 := hl.1
    subst hl1
    subst hr0e
    have hw3 : bz_W L g [(o + 1, b_PR E (o + 1) pr0), (o + 14, b_PR E (o + 14) pr1), (p + 8, b_Sum E (p + 8) v1 i1 (nI pl.2.2.2.2.2.2.2.length))] := by
      refine bz_W.cons ((hW2.at (j := 0) rfl).sub 1 rfl) (bz_W.two ((hW2.at (j := 0) rfl).sub 14 rfl) ((hW2.at (j := 1) rfl).sub 8 rfl) (by show o + 14 + 13 ≤ p + 8 ∨ p + 8 + 3 ≤ o + 14; omega)) (fun b hb => ?_)
      rcases List.mem_cons.mp hb with rfl | hb
      · show o + 1 + 13 ≤ o + 14 ∨ o + 14 + 13 ≤ o + 1; omega
      · rw [List.mem_singleton.mp hb]; show o + 1 + 13 ≤ p + 8 ∨ p + 8 + 3 ≤ o + 1; omega
    refine g_aload_n (q := 1) dX5_forwardFrom_0 rfl rfl ?_
    refine g_aload_n (q := 2) dX5_forwardFrom_1 rfl rfl ?_
    refine g_iload_n (q := 3) dX5_forwardFrom_2 rfl rfl ?_
    refine gb_callV (q := 6) (j := 0) (i := 0) dX5_forwardFrom_3 rfl kv_X5_85 (c_firstReady0 hr0 hr1 hp hB.1) rfl (by decide) hB rfl rfl rfl rfl (bz_le rfl) (by decide) (by decide) (fun r g1 hQ => ?_)
    obtain ⟨rfl, hg⟩ := hQ
    have hg := hg.symm
    subst hg
    rw [hnx]
    dsimp only
    refine g_istore_n (q := 7) rfl dX5_forwardFrom_6 rfl (by decide) rfl ?_
    refine g_iload_n (q := 8) dX5_forwardFrom_7 rfl rfl ?_
    refine g_iconst (q := 9) (v := (-1)) dX5_forwardFrom_8 rfl (by decide) ?_
    refine g_icmp_ne (q := 12) (t := 14) dX5_forwardFrom_9 rfl (by decide) (fun _ => ?_) (fun c => absurd c (nI_nm i (by have := (List.getElem?_eq_some_iff.mp hx).1; have := hr0.2.2.1.len; omega)))
    refine g_iconst (q := 15) (v := (nI 1)) dX5_forwardFrom_14 rfl (by decide) ?_
    refine g_iload_n (q := 16) dX5_forwardFrom_15 rfl rfl ?_
    refine g_isubN (q := 17) dX5_forwardFrom_16 rfl (by decide) ?_
    refine g_istore (q := 19) dX5_forwardFrom_17 rfl (by decide) rfl ?_
    refine g_aload_n (q := 20) dX5_forwardFrom_19 rfl rfl ?_
    refine g_iload_n (q := 21) dX5_forwardFrom_20 rfl rfl ?_
    refine gb_callV (q := 24) (j := 0) (i := 0) dX5_forwardFrom_21 rfl kv_X5_89 (c_portOf0 (hB.1.at (j := 0) rfl)) rfl (by decide) hB rfl rfl rfl rfl (bz_le rfl) (by decide) (by decide) (fun r g1 hQ => ?_)
    obtain ⟨rfl, hg⟩ := hQ
    have hg := hg.symm
    subst hg
    refine g_aload_n (q := 25) dX5_forwardFrom_24 rfl rfl ?_
    refine g_iload (q := 27) dX5_forwardFrom_25 rfl rfl ?_
    refine gb_callV (q := 30) (j := 0) (i := 0) dX5_forwardFrom_27 rfl kv_X5_89 (c_portOf1 (hB.1.at (j := 0) rfl)) rfl (by decide) hB rfl rfl rfl rfl (bz_le rfl) (by decide) (by decide) (fun r g1 hQ => ?_)
    obtain ⟨rfl, hg⟩ := hQ
    have hg := hg.symm
    subst hg
    refine g_iload_n (q := 31) dX5_forwardFrom_30 rfl rfl ?_
    refine g_aload_n (q := 32) dX5_forwardFrom_31 rfl rfl ?_
    refine gb_getf (q := 35) (j := 0) (i := 0) dX5_forwardFrom_32 rfl fl_X5_21 hB rfl rfl rfl rfl ?_
    refine g_aload_n (q := 36) dX5_forwardFrom_35 rfl rfl ?_
    refine g_iload (q := 38) dX5_forwardFrom_36 rfl rfl ?_
    refine gb_callV (q := 41) (j := 1) (i := 0) dX5_forwardFrom_38 rfl kv_X5_93 (c_latencyOf1 (hB.1.at (j := 1) rfl)) rfl (by decide) hB rfl rfl rfl rfl (bz_le rfl) (by decide) (by decide) (fun r g1 hQ => ?_)
    obtain ⟨rfl, hg⟩ := hQ
    have hg := hg.symm
    subst hg
    refine gb_callV (q := 44) (j := 0) (i := 1) dX5_forwardFrom_41 rfl kv_X5_97 (c_forwardTo (v := v1) (it := i1) (l0 := pl.2.2.2.2.2.2.2) hr0 hr1 hx hnow (hq x (List.mem_of_getElem? hx)) (by have := (hp.1 (4 + tK x) (by omega)).2.2.2.2; omega) hl.2.1 hl.2.2.1 hl.2.2.2 hw3) rfl (by decide) hB rfl rfl rfl rfl (bz_le rfl) (by decide) (by decide) (fun r g1 hQ => ?_)
    obtain ⟨rfl, ra, rb, vv, h1, hra, hrb⟩ := hQ
    obtain ⟨gm, hm1, hm2⟩ := bz_B.mid3 ((hB.1.at (j := 0) rfl).sub 1 (e1 := b_PR E (o + 1) pr0) rfl) ((hB.1.at (j := 0) rfl).sub 14 (e1 := b_PR E (o + 14) pr1) rfl) (by rfl) (by rfl) h1
    obtain ⟨gn, hn1, hn2⟩ := hm2
    have hB := hB.sp (j := 0) rfl 1 rfl hm1 (bz_le rfl)
    have hB := hB.sp (j := 0) rfl 14 rfl hn1 (bz_le rfl)
    have hB := hB.sp (j := 1) rfl 8 rfl hn2 (bz_le rfl)
    refine g_iconst (q := 45) (v := (nI 1)) dX5_forwardFrom_44 rfl (by decide) ?_
    exact g_zret dX5_forwardFrom_45 rfl rfl ⟨by rw [hF]; rfl, (nI σ.1, mv, ra, rb), vv, hB, rfl, rfl, by rw [hF]; exact ⟨hra, hrb⟩⟩
set_option maxRecDepth 20000 in
set_option maxHeartbeats 1000000 in
theorem c_forwardFrom1 {l : Launch} {E : bz_E} {L : List Nat} {g : Nat → va_E} {o p : Nat} {r0 : SR} {σ : Si} {pl : Pl} {zs cs ts ws v0 i0 v1 i1 : Nat → Int32} {n0 n1 sp tc : Int32} (hr0 : s_rep r0.2.2.1 σ.2.1) (hr1 : s_rep r0.2.2.2 σ.2.2) (hnw : r0.1 = nI σ.1) (hnow : σ.1 < 90000) (hq : ∀ x ∈ σ.2.2.1, tM x ≤ σ.1) (hp : s_lpl zs cs ts ws i0 n0 i1 n1 sp tc pl) (hW2 : bz_W L g [(o, b_Sit E o r0), (p, (b_Plan E p zs cs ts ws v0 i0 n0 v1 i1 n1 sp tc))]) : bz_K l E mX5_forwardFrom 4 [.ref o, .ref p, .int (nI 1)] L g (fun r g1 => r = some (.int (tB (s_fwd pl.2.2.1 (fun k => pl.2.1 (0 + k)) pl.2.2.2.2.2.2.1 σ.1 σ.2.2 σ.2.1).1)) ∧ ∃ (r1 : SR) (v0' : Nat → Int32), bz_B L g g1 [(o, b_Sit E o r1), (p, (b_Plan E p zs cs ts ws v0' i0 n0 v1 i1 n1 sp tc))] ∧ r1.1 = nI σ.1 ∧ r1.2.1 = r0.2.1 ∧ s_rep r1.2.2.1 (s_fwd pl.2.2.1 (fun k => pl.2.1 (0 + k)) pl.2.2.2.2.2.2.1 σ.1 σ.2.2 σ.2.1).2.2 ∧ s_rep r1.2.2.2 (s_fwd pl.2.2.1 (fun k => pl.2.1 (0 + k)) pl.2.2.2.2.2.2.1 σ.1 σ.2.2 σ.2.1).2.1) := by
  refine bz_K.of (by decide) (bz_le rfl) (fun sz => ?_)
  show bz_G _ _ _ _ _ _ _ _ _ _ _ _ 0 [(0, .ref o), (1, .ref p), (2, .int (nI 1))] []
  obtain ⟨nw, mv, pr0, pr1⟩ := r0
  dsimp only at hr0 hr1 hnw
  subst hnw
  generalize hr0e : ((nI σ.1, mv, pr0, pr1) : SR) = r0 at hW2
  have hr0e := hr0e.symm
  have hB := bz_B.rf hW2
  have hap : o + 27 ≤ p ∨ p + 11 ≤ o := by
    have := hW2.2
    unfold bz_ap at this
    exact (List.pairwise_cons.mp this).1 _ List.mem_cons_self
  cases hnx : (s_next pl.2.2.1 (fun k => pl.2.1 (0 + k)) σ.2.1.2.1 [] σ.2.2.1) with
  | none =>
    have hF : (s_fwd pl.2.2.1 (fun k => pl.2.1 (0 + k)) pl.2.2.2.2.2.2.1 σ.1 σ.2.2 σ.2.1) = (false, σ.2.2, σ.2.1) := by unfold s_fwd; rw [hnx]
    subst hr0e
    refine g_aload_n (q := 1) dX5_forwardFrom_0 rfl rfl ?_
    refine g_aload_n (q := 2) dX5_forwardFrom_1 rfl rfl ?_
    refine g_iload_n (q := 3) dX5_forwardFrom_2 rfl rfl ?_
    refine gb_callV (q := 6) (j := 0) (i := 0) dX5_forwardFrom_3 rfl kv_X5_85 (c_firstReady1 hr0 hr1 hp hB.1) rfl (by decide) hB rfl rfl rfl rfl (bz_le rfl) (by decide) (by decide) (fun r g1 hQ => ?_)
    obtain ⟨rfl, hg⟩ := hQ
    have hg := hg.symm
    subst hg
    rw [hnx]
    dsimp only
    refine g_istore_n (q := 7) rfl dX5_forwardFrom_6 rfl (by decide) rfl ?_
    refine g_iload_n (q := 8) dX5_forwardFrom_7 rfl rfl ?_
    refine g_iconst (q := 9) (v := (-1)) dX5_forwardFrom_8 rfl (by decide) ?_
    refine g_icmp_ne (q := 12) (t := 14) dX5_forwardFrom_9 rfl (by decide) (fun c => absurd c (by decide)) (fun _ => ?_)
    refine g_iconst (q := 13) (v := (nI 0)) dX5_forwardFrom_12 rfl (by decide) ?_
    exact g_zret dX5_forwardFrom_13 rfl rfl ⟨by rw [hF]; rfl, (nI σ.1, mv, pr0, pr1), v0, hB, rfl, rfl, by rw [hF]; exact ⟨hr0, hr1⟩⟩
  | some i =>
    obtain ⟨x, hx, hcr⟩ := s_next_spec _ _ _ hnx
    rw [List.nil_append] at hx
    have hF : (s_fwd pl.2.2.1 (fun k => pl.2.1 (0 + k)) pl.2.2.2.2.2.2.1 σ.1 σ.2.2 σ.2.1) = (true, (σ.2.2.1.eraseIdx i, σ.2.2.2.1, σ.2.2.2.2.1, σ.2.2.2.2.2.1, σ.2.2.2.2.2.2.1 + 1, σ.2.2.2.2.2.2.2.1 + i, σ.2.2.2.2.2.2.2.2 + (σ.1 - tM x)), (σ.2.1.1, σ.2.1.2.1 ++ [s_tm x (σ.1 + s_lat pl.2.2.2.2.2.2.1 x σ.1 + 1)], σ.2.1.2.2)) := by unfold s_fwd; rw [hnx]; dsimp only; rw [hx]
    have hxk := (hr1.2.2.1.1 x (List.mem_of_getElem? hx)).1
    have hl := hp.2.2.2.2.2.2.2.1
    have hl1 := hl.1
    subst hl1
    subst hr0e
    have hw3 : bz_W L g [(o + 14, b_PR E (o + 14) pr1), (o + 1, b_PR E (o + 1) pr0), (p + 5, b_Sum E (p + 5) v0 i0 (nI pl.2.2.2.2.2.2.1.length))] := by
      refine bz_W.cons ((hW2.at (j := 0) rfl).sub 14 rfl) (bz_W.two ((hW2.at (j := 0) rfl).sub 1 rfl) ((hW2.at (j := 1) rfl).sub 5 rfl) (by show o + 1 + 13 ≤ p + 5 ∨ p + 5 + 3 ≤ o + 1; omega)) (fun b hb => ?_)
      rcases List.mem_cons.mp hb with rfl | hb
      · show o + 14 + 13 ≤ o + 1 ∨ o + 1 + 13 ≤ o + 14; omega
      · rw [List.mem_singleton.mp hb]; show o + 14 + 13 ≤ p + 5 ∨ p + 5 + 3 ≤ o + 14; omega
    refine g_aload_n (q := 1) dX5_forwardFrom_0 rfl rfl ?_
    refine g_aload_n (q := 2) dX5_forwardFrom_1 rfl rfl ?_
    refine g_iload_n (q := 3) dX5_forwardFrom_2 rfl rfl ?_
    refine gb_callV (q := 6) (j := 0) (i := 0) dX5_forwardFrom_3 rfl kv_X5_85 (c_firstReady1 hr0 hr1 hp hB.1) rfl (by decide) hB rfl rfl rfl rfl (bz_le rfl) (by decide) (by decide) (fun r g1 hQ => ?_)
    obtain ⟨rfl, hg⟩ := hQ
    have hg := hg.symm
    subst hg
    rw [hnx]
    dsimp only
    refine g_istore_n (q := 7) rfl dX5_forwardFrom_6 rfl (by decide) rfl ?_
    refine g_iload_n (q := 8) dX5_forwardFrom_7 rfl rfl ?_
    refine g_iconst (q := 9) (v := (-1)) dX5_forwardFrom_8 rfl (by decide) ?_
    refine g_icmp_ne (q := 12) (t := 14) dX5_forwardFrom_9 rfl (by decide) (fun _ => ?_) (fun c => absurd c (nI_nm i (by have := (List.getElem?_eq_some_iff.mp hx).1; have := hr1.2.2.1.len; omega)))
    refine g_iconst (q := 15) (v := (nI 1)) dX5_forwardFrom_14 rfl (by decide) ?_
    refine g_iload_n (q := 16) dX5_forwardFrom_15 rfl rfl ?_
    refine g_isubN (q := 17) dX5_forwardFrom_16 rfl (by decide) ?_
    refine g_istore (q := 19) dX5_forwardFrom_17 rfl (by decide) rfl ?_
    refine g_aload_n (q := 20) dX5_forwardFrom_19 rfl rfl ?_
    refine g_iload_n (q := 21) dX5_forwardFrom_20 rfl rfl ?_
    refine gb_callV (q := 24) (j := 0) (i := 0) dX5_forwardFrom_21 rfl kv_X5_89 (c_portOf1 (hB.1.at (j := 0) rfl)) rfl (by decide) hB rfl rfl rfl rfl (bz_le rfl) (by decide) (by decide) (fun r g1 hQ => ?_)
    obtain ⟨rfl, hg⟩ := hQ
    have hg := hg.symm
    subst hg
    refine g_aload_n (q := 25) dX5_forwardFrom_24 rfl rfl ?_
    refine g_iload (q := 27) dX5_forwardFrom_25 rfl rfl ?_
    refine gb_callV (q := 30) (j := 0) (i := 0) dX5_forwardFrom_27 rfl kv_X5_89 (c_portOf0 (hB.1.at (j := 0) rfl)) rfl (by decide) hB rfl rfl rfl rfl (bz_le rfl) (by decide) (by decide) (fun r g1 hQ => ?_)
    obtain ⟨rfl, hg⟩ := hQ
    have hg := hg.symm
    subst hg
    refine g_iload_n (q := 31) dX5_forwardFrom_30 rfl rfl ?_
    refine g_aload_n (q := 32) dX5_forwardFrom_31 rfl rfl ?_
    refine gb_getf (q := 35) (j := 0) (i := 0) dX5_forwardFrom_32 rfl fl_X5_21 hB rfl rfl rfl rfl ?_
    refine g_aload_n (q := 36) dX5_forwardFrom_35 rfl rfl ?_
    refine g_iload (q := 38) dX5_forwardFrom_36 rfl rfl ?_
    refine gb_callV (q := 41) (j := 1) (i := 0) dX5_forwardFrom_38 rfl kv_X5_93 (c_latencyOf0 (hB.1.at (j := 1) rfl)) rfl (by decide) hB rfl rfl rfl rfl (bz_le rfl) (by decide) (by decide) (fun r g1 hQ => ?_)
    obtain ⟨rfl, hg⟩ := hQ
    have hg := hg.symm
    subst hg
    refine gb_callV (q := 44) (j := 0) (i := 14) dX5_forwardFrom_41 rfl kv_X5_97 (c_forwardTo (v := v0) (it := i0) (l0 := pl.2.2.2.2.2.2.1) hr1 hr0 hx hnow (hq x (List.mem_of_getElem? hx)) (by have := (hp.1 (0 + tK x) (by omega)).2.2.2.2; omega) hl.2.1 hl.2.2.1 hl.2.2.2 hw3) rfl (by decide) hB rfl rfl rfl rfl (bz_le rfl) (by decide) (by decide) (fun r g1 hQ => ?_)
    obtain ⟨rfl, ra, rb, vv, h1, hra, hrb⟩ := hQ
    obtain ⟨gm, hm1, hm2⟩ := bz_B.mid3 ((hB.1.at (j := 0) rfl).sub 14 (e1 := b_PR E (o + 14) pr1) rfl) ((hB.1.at (j := 0) rfl).sub 1 (e1 := b_PR E (o + 1) pr0) rfl) (by rfl) (by rfl) h1
    obtain ⟨gn, hn1, hn2⟩ := hm2
    have hB := hB.sp (j := 0) rfl 14 rfl hm1 (bz_le rfl)
    have hB := hB.sp (j := 0) rfl 1 rfl hn1 (bz_le rfl)
    have hB := hB.sp (j := 1) rfl 5 rfl hn2 (bz_le rfl)
    refine g_iconst (q := 45) (v := (nI 1)) dX5_forwardFrom_44 rfl (by decide) ?_
    exact g_zret dX5_forwardFrom_45 rfl rfl ⟨by rw [hF]; rfl, (nI σ.1, mv, rb, ra), vv, hB, rfl, rfl, by rw [hF]; exact ⟨hrb, hra⟩⟩
