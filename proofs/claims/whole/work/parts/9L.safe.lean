/-! the class: isSafe -/
theorem w_six : ∀ m, m < 16 → ((m &&& 6 = 0) ↔ (m.testBit 1 = false ∧ m.testBit 2 = false)) := by decide +kernel
theorem w_sf {tb : Nat → Nat} {k : Nat} (h1 : tb (k * 4 + 1) ≤ 1) (h2 : tb (k * 4 + 2) ≤ 1) : (s_bk tb k false 4 &&& 6 = 0) ↔ (tb (k * 4 + 1) = 1 ∧ tb (k * 4 + 2) = 1) := by
  rw [w_six _ (s_bk_lt _ _ _ 4), s_bk_bit tb k false 1 (by decide), s_bk_bit tb k false 2 (by decide)]
  rcases (show tb (k * 4 + 1) = 0 ∨ tb (k * 4 + 1) = 1 by omega) with e | e <;> rcases (show tb (k * 4 + 2) = 0 ∨ tb (k * 4 + 2) = 1 by omega) with f | f <;> rw [e, f] <;> decide

set_option maxRecDepth 20000 in
set_option maxHeartbeats 1000000 in
theorem c8_isSafe {l : Launch} {E : bz_E} {L : List Nat} {g : Nat → va_E} {o p q : Nat} {n er v0 v1 : Int32} {rp : PLR} {rS : SR} {σ : Si} {D : Pl} (hd : d_ok D) (hr : s_srep rS σ) (hD : d_rep rp D) (hW : bz_W L g [(o, w_obj o p q n er v0 v1), (p, b_PL E p rp), (o + 27, b_Sit E (o + 27) rS)]) : bz_K l E mX8_isSafe 2 [.ref o] L g (fun r g1 => r = some (.int (tB (m_safe D.2.2.1 D.2.1))) ∧ g1 = g) := by
  refine bz_K.of (by decide) (bz_le rfl) (fun sz => ?_)
  have hB := bz_B.rf hW
  have hc8 : ∀ k, k < 8 → D.2.1 k ≤ 8 := fun k hk => (hd.1 k hk).2.2
  have h0 := w_sf (tb := D.2.2.1) (k := 0) (hd.2.1 _ (by decide)) (hd.2.1 _ (by decide))
  have h3 := w_sf (tb := D.2.2.1) (k := 3) (hd.2.1 _ (by decide)) (hd.2.1 _ (by decide))
  show bz_G _ _ _ _ _ _ _ _ _ _ _ _ 0 [(0, .ref o)] []
  refine g_bipush (q := 2) (v := (nI 6)) dX8_isSafe_0 rfl (by decide) ?_
  refine g_istore_n (q := 3) rfl dX8_isSafe_2 rfl (by decide) rfl ?_
  refine g_aload_n (q := 4) dX8_isSafe_3 rfl rfl ?_
  refine gb_getf (q := 7) (j := 0) (i := 0) dX8_isSafe_4 rfl fl_X8_23 hB rfl rfl rfl rfl ?_
  refine g_iconst (q := 8) (v := (nI 0)) dX8_isSafe_7 rfl (by decide) ?_
  refine g_iconst (q := 9) (v := (nI 0)) dX8_isSafe_8 rfl (by decide) ?_
  refine gb_callV (q := 12) (j := 1) (i := 0) dX8_isSafe_9 rfl kv_X8_104 (c_blockingKinds (k := 0) (rx := false) (tb := D.2.2.1) (by decide) (fun i hi => ⟨hD.2.2.1 i hi, hd.2.1 i hi⟩) (hB.1.at (j := 1) rfl)) rfl (by decide) hB rfl rfl rfl rfl (bz_le rfl) (by decide) (by decide) (fun r g1 hQ => ?_)
  obtain ⟨rfl, hg⟩ := hQ
  have hg := hg.symm
  subst hg
  refine g_iload_n (q := 13) dX8_isSafe_12 rfl rfl ?_
  refine g_iand (q := 14) dX8_isSafe_13 rfl ?_
  refine g_eqi (v := nI (s_bk D.2.2.1 0 false 4 &&& 6)) ((bz_and16 _ (s_bk_lt _ _ _ 4) 6 (by decide)).1) ?_
  refine g_ifN_ne (q := 17) (t := 35) dX8_isSafe_14 rfl (by decide) (by have := (bz_and16 (s_bk D.2.2.1 0 false 4) (s_bk_lt _ _ _ 4) 6 (by decide)).2; omega) (fun c_14 => ?_) (fun c_14 => ?_)
  · refine g_iconst (q := 36) (v := (nI 0)) dX8_isSafe_35 rfl (by decide) ?_
    refine g_istore_n (q := 37) rfl dX8_isSafe_36 rfl (by decide) rfl ?_
    refine g_iconst (q := 38) (v := (nI 1)) dX8_isSafe_37 rfl (by decide) ?_
    refine g_istore_n (q := 39) rfl dX8_isSafe_38 rfl (by decide) rfl ?_
    refine g_iconst (q := 40) (v := (nI 0)) dX8_isSafe_39 rfl (by decide) ?_
    refine g_istore (q := 42) dX8_isSafe_40 rfl (by decide) rfl ?_
    refine g_iload (q := 44) dX8_isSafe_42 rfl rfl ?_
    refine g_iconst (q := 45) (v := (nI 2)) dX8_isSafe_44 rfl (by decide) ?_
    refine g_icmpN_ge (q := 48) (t := 92) dX8_isSafe_45 rfl (by decide) (by omega) (by omega) (fun c => absurd c (by omega)) (fun _ => ?_)
    refine g_iload_n (q := 49) dX8_isSafe_48 rfl rfl ?_
    refine g_ifN_eq (q := 52) (t := 84) dX8_isSafe_49 rfl (by decide) (by omega) (fun c => absurd c (by omega)) (fun _ => ?_)
    refine g_aload_n (q := 53) dX8_isSafe_52 rfl rfl ?_
    refine gb_getf (q := 56) (j := 0) (i := 0) dX8_isSafe_53 rfl fl_X8_23 hB rfl rfl rfl rfl ?_
    refine g_iload (q := 58) dX8_isSafe_56 rfl rfl ?_
    refine g_iconst (q := 59) (v := (nI 0)) dX8_isSafe_58 rfl (by decide) ?_
    refine gb_callV (q := 62) (j := 1) (i := 0) dX8_isSafe_59 rfl kv_X8_112 (c_creditsOf (k := 0) (by decide) (hB.1.at (j := 1) rfl)) rfl (by decide) hB rfl rfl rfl rfl (bz_le rfl) (by decide) (by decide) (fun r g1 hQ => ?_)
    obtain ⟨rfl, hg⟩ := hQ
    have hg := hg.symm
    subst hg
    refine g_eqi (v := nI (D.2.1 _)) (hD.2.1 _ (by decide)) ?_
    refine g_iconst (q := 63) (v := (nI 1)) dX8_isSafe_62 rfl (by decide) ?_
    refine g_icmpN_lt (q := 66) (t := 84) dX8_isSafe_63 rfl (by decide) (Nat.lt_of_le_of_lt (hc8 _ (by decide)) (by decide)) (by decide) (fun c_63 => ?_) (fun c_63 => ?_)
    · refine g_iconst (q := 85) (v := (nI 0)) dX8_isSafe_84 rfl (by decide) ?_
      refine g_istore_n (q := 86) rfl dX8_isSafe_85 rfl (by decide) rfl ?_
      refine g_iincN (q := 89) (c := 1) dX8_isSafe_86 rfl (by decide) rfl rfl (by decide) ?_
      refine g_goto (q := 42) dX8_isSafe_89 (by decide) ?_
      refine g_iload (q := 44) dX8_isSafe_42 rfl rfl ?_
      refine g_iconst (q := 45) (v := (nI 2)) dX8_isSafe_44 rfl (by decide) ?_
      refine g_icmpN_ge (q := 48) (t := 92) dX8_isSafe_45 rfl (by decide) (by omega) (by omega) (fun c => absurd c (by omega)) (fun _ => ?_)
      refine g_iload_n (q := 49) dX8_isSafe_48 rfl rfl ?_
      refine g_ifN_eq (q := 52) (t := 84) dX8_isSafe_49 rfl (by decide) (by omega) (fun _ => ?_) (fun c => absurd c (by omega))
      refine g_iconst (q := 85) (v := (nI 0)) dX8_isSafe_84 rfl (by decide) ?_
      refine g_istore_n (q := 86) rfl dX8_isSafe_85 rfl (by decide) rfl ?_
      refine g_iincN (q := 89) (c := 1) dX8_isSafe_86 rfl (by decide) rfl rfl (by decide) ?_
      refine g_goto (q := 42) dX8_isSafe_89 (by decide) ?_
      refine g_iload (q := 44) dX8_isSafe_42 rfl rfl ?_
      refine g_iconst (q := 45) (v := (nI 2)) dX8_isSafe_44 rfl (by decide) ?_
      refine g_icmpN_ge (q := 48) (t := 92) dX8_isSafe_45 rfl (by decide) (by omega) (by omega) (fun _ => ?_) (fun c => absurd c (by omega))
      refine g_iload_n (q := 93) dX8_isSafe_92 rfl rfl ?_
      refine g_ifN_eq (q := 96) (t := 104) dX8_isSafe_93 rfl (by decide) (by omega) (fun _ => ?_) (fun c => absurd c (by omega))
      refine g_iconst (q := 105) (v := (nI 0)) dX8_isSafe_104 rfl (by decide) ?_
      exact g_zret dX8_isSafe_105 rfl rfl ⟨congrArg (fun c => some (Value.int c)) (by unfold m_safe; simp only [Nat.reduceMul, Nat.reduceAdd] at *; first | (rw [decide_eq_true (by omega)]; rfl) | (rw [decide_eq_false (by omega)]; rfl)), rfl⟩
    · refine g_aload_n (q := 67) dX8_isSafe_66 rfl rfl ?_
      refine gb_getf (q := 70) (j := 0) (i := 0) dX8_isSafe_67 rfl fl_X8_23 hB rfl rfl rfl rfl ?_
      refine g_iload (q := 72) dX8_isSafe_70 rfl rfl ?_
      refine g_iconst (q := 73) (v := (nI 3)) dX8_isSafe_72 rfl (by decide) ?_
      refine gb_callV (q := 76) (j := 1) (i := 0) dX8_isSafe_73 rfl kv_X8_112 (c_creditsOf (k := 3) (by decide) (hB.1.at (j := 1) rfl)) rfl (by decide) hB rfl rfl rfl rfl (bz_le rfl) (by decide) (by decide) (fun r g1 hQ => ?_)
      obtain ⟨rfl, hg⟩ := hQ
      have hg := hg.symm
      subst hg
      refine g_eqi (v := nI (D.2.1 _)) (hD.2.1 _ (by decide)) ?_
      refine g_iconst (q := 77) (v := (nI 1)) dX8_isSafe_76 rfl (by decide) ?_
      refine g_icmpN_lt (q := 80) (t := 84) dX8_isSafe_77 rfl (by decide) (Nat.lt_of_le_of_lt (hc8 _ (by decide)) (by decide)) (by decide) (fun c_77 => ?_) (fun c_77 => ?_)
      · refine g_iconst (q := 85) (v := (nI 0)) dX8_isSafe_84 rfl (by decide) ?_
        refine g_istore_n (q := 86) rfl dX8_isSafe_85 rfl (by decide) rfl ?_
        refine g_iincN (q := 89) (c := 1) dX8_isSafe_86 rfl (by decide) rfl rfl (by decide) ?_
        refine g_goto (q := 42) dX8_isSafe_89 (by decide) ?_
        refine g_iload (q := 44) dX8_isSafe_42 rfl rfl ?_
        refine g_iconst (q := 45) (v := (nI 2)) dX8_isSafe_44 rfl (by decide) ?_
        refine g_icmpN_ge (q := 48) (t := 92) dX8_isSafe_45 rfl (by decide) (by omega) (by omega) (fun c => absurd c (by omega)) (fun _ => ?_)
        refine g_iload_n (q := 49) dX8_isSafe_48 rfl rfl ?_
        refine g_ifN_eq (q := 52) (t := 84) dX8_isSafe_49 rfl (by decide) (by omega) (fun _ => ?_) (fun c => absurd c (by omega))
        refine g_iconst (q := 85) (v := (nI 0)) dX8_isSafe_84 rfl (by decide) ?_
        refine g_istore_n (q := 86) rfl dX8_isSafe_85 rfl (by decide) rfl ?_
        refine g_iincN (q := 89) (c := 1) dX8_isSafe_86 rfl (by decide) rfl rfl (by decide) ?_
        refine g_goto (q := 42) dX8_isSafe_89 (by decide) ?_
        refine g_iload (q := 44) dX8_isSafe_42 rfl rfl ?_
        refine g_iconst (q := 45) (v := (nI 2)) dX8_isSafe_44 rfl (by decide) ?_
        refine g_icmpN_ge (q := 48) (t := 92) dX8_isSafe_45 rfl (by decide) (by omega) (by omega) (fun _ => ?_) (fun c => absurd c (by omega))
        refine g_iload_n (q := 93) dX8_isSafe_92 rfl rfl ?_
        refine g_ifN_eq (q := 96) (t := 104) dX8_isSafe_93 rfl (by decide) (by omega) (fun _ => ?_) (fun c => absurd c (by omega))
        refine g_iconst (q := 105) (v := (nI 0)) dX8_isSafe_104 rfl (by decide) ?_
        exact g_zret dX8_isSafe_105 rfl rfl ⟨congrArg (fun c => some (Value.int c)) (by unfold m_safe; simp only [Nat.reduceMul, Nat.reduceAdd] at *; first | (rw [decide_eq_true (by omega)]; rfl) | (rw [decide_eq_false (by omega)]; rfl)), rfl⟩
      · refine g_iconst (q := 81) (v := (nI 1)) dX8_isSafe_80 rfl (by decide) ?_
        refine g_goto (q := 85) dX8_isSafe_81 (by decide) ?_
        refine g_istore_n (q := 86) rfl dX8_isSafe_85 rfl (by decide) rfl ?_
        refine g_iincN (q := 89) (c := 1) dX8_isSafe_86 rfl (by decide) rfl rfl (by decide) ?_
        refine g_goto (q := 42) dX8_isSafe_89 (by decide) ?_
        refine g_iload (q := 44) dX8_isSafe_42 rfl rfl ?_
        refine g_iconst (q := 45) (v := (nI 2)) dX8_isSafe_44 rfl (by decide) ?_
        refine g_icmpN_ge (q := 48) (t := 92) dX8_isSafe_45 rfl (by decide) (by omega) (by omega) (fun c => absurd c (by omega)) (fun _ => ?_)
        refine g_iload_n (q := 49) dX8_isSafe_48 rfl rfl ?_
        refine g_ifN_eq (q := 52) (t := 84) dX8_isSafe_49 rfl (by decide) (by omega) (fun c => absurd c (by omega)) (fun _ => ?_)
        refine g_aload_n (q := 53) dX8_isSafe_52 rfl rfl ?_
        refine gb_getf (q := 56) (j := 0) (i := 0) dX8_isSafe_53 rfl fl_X8_23 hB rfl rfl rfl rfl ?_
        refine g_iload (q := 58) dX8_isSafe_56 rfl rfl ?_
        refine g_iconst (q := 59) (v := (nI 0)) dX8_isSafe_58 rfl (by decide) ?_
        refine gb_callV (q := 62) (j := 1) (i := 0) dX8_isSafe_59 rfl kv_X8_112 (c_creditsOf (k := 0) (by decide) (hB.1.at (j := 1) rfl)) rfl (by decide) hB rfl rfl rfl rfl (bz_le rfl) (by decide) (by decide) (fun r g1 hQ => ?_)
        obtain ⟨rfl, hg⟩ := hQ
        have hg := hg.symm
        subst hg
        refine g_eqi (v := nI (D.2.1 _)) (hD.2.1 _ (by decide)) ?_
        refine g_iconst (q := 63) (v := (nI 1)) dX8_isSafe_62 rfl (by decide) ?_
        refine g_icmpN_lt (q := 66) (t := 84) dX8_isSafe_63 rfl (by decide) (Nat.lt_of_le_of_lt (hc8 _ (by decide)) (by decide)) (by decide) (fun c_63 => ?_) (fun c_63 => ?_)
        · refine g_iconst (q := 85) (v := (nI 0)) dX8_isSafe_84 rfl (by decide) ?_
          refine g_istore_n (q := 86) rfl dX8_isSafe_85 rfl (by decide) rfl ?_
          refine g_iincN (q := 89) (c := 1) dX8_isSafe_86 rfl (by decide) rfl rfl (by decide) ?_
          refine g_goto (q := 42) dX8_isSafe_89 (by decide) ?_
          refine g_iload (q := 44) dX8_isSafe_42 rfl rfl ?_
          refine g_iconst (q := 45) (v := (nI 2)) dX8_isSafe_44 rfl (by decide) ?_
          refine g_icmpN_ge (q := 48) (t := 92) dX8_isSafe_45 rfl (by decide) (by omega) (by omega) (fun _ => ?_) (fun c => absurd c (by omega))
          refine g_iload_n (q := 93) dX8_isSafe_92 rfl rfl ?_
          refine g_ifN_eq (q := 96) (t := 104) dX8_isSafe_93 rfl (by decide) (by omega) (fun _ => ?_) (fun c => absurd c (by omega))
          refine g_iconst (q := 105) (v := (nI 0)) dX8_isSafe_104 rfl (by decide) ?_
          exact g_zret dX8_isSafe_105 rfl rfl ⟨congrArg (fun c => some (Value.int c)) (by unfold m_safe; simp only [Nat.reduceMul, Nat.reduceAdd] at *; first | (rw [decide_eq_true (by omega)]; rfl) | (rw [decide_eq_false (by omega)]; rfl)), rfl⟩
        · refine g_aload_n (q := 67) dX8_isSafe_66 rfl rfl ?_
          refine gb_getf (q := 70) (j := 0) (i := 0) dX8_isSafe_67 rfl fl_X8_23 hB rfl rfl rfl rfl ?_
          refine g_iload (q := 72) dX8_isSafe_70 rfl rfl ?_
          refine g_iconst (q := 73) (v := (nI 3)) dX8_isSafe_72 rfl (by decide) ?_
          refine gb_callV (q := 76) (j := 1) (i := 0) dX8_isSafe_73 rfl kv_X8_112 (c_creditsOf (k := 3) (by decide) (hB.1.at (j := 1) rfl)) rfl (by decide) hB rfl rfl rfl rfl (bz_le rfl) (by decide) (by decide) (fun r g1 hQ => ?_)
          obtain ⟨rfl, hg⟩ := hQ
          have hg := hg.symm
          subst hg
          refine g_eqi (v := nI (D.2.1 _)) (hD.2.1 _ (by decide)) ?_
          refine g_iconst (q := 77) (v := (nI 1)) dX8_isSafe_76 rfl (by decide) ?_
          refine g_icmpN_lt (q := 80) (t := 84) dX8_isSafe_77 rfl (by decide) (Nat.lt_of_le_of_lt (hc8 _ (by decide)) (by decide)) (by decide) (fun c_77 => ?_) (fun c_77 => ?_)
          · refine g_iconst (q := 85) (v := (nI 0)) dX8_isSafe_84 rfl (by decide) ?_
            refine g_istore_n (q := 86) rfl dX8_isSafe_85 rfl (by decide) rfl ?_
            refine g_iincN (q := 89) (c := 1) dX8_isSafe_86 rfl (by decide) rfl rfl (by decide) ?_
            refine g_goto (q := 42) dX8_isSafe_89 (by decide) ?_
            refine g_iload (q := 44) dX8_isSafe_42 rfl rfl ?_
            refine g_iconst (q := 45) (v := (nI 2)) dX8_isSafe_44 rfl (by decide) ?_
            refine g_icmpN_ge (q := 48) (t := 92) dX8_isSafe_45 rfl (by decide) (by omega) (by omega) (fun _ => ?_) (fun c => absurd c (by omega))
            refine g_iload_n (q := 93) dX8_isSafe_92 rfl rfl ?_
            refine g_ifN_eq (q := 96) (t := 104) dX8_isSafe_93 rfl (by decide) (by omega) (fun _ => ?_) (fun c => absurd c (by omega))
            refine g_iconst (q := 105) (v := (nI 0)) dX8_isSafe_104 rfl (by decide) ?_
            exact g_zret dX8_isSafe_105 rfl rfl ⟨congrArg (fun c => some (Value.int c)) (by unfold m_safe; simp only [Nat.reduceMul, Nat.reduceAdd] at *; first | (rw [decide_eq_true (by omega)]; rfl) | (rw [decide_eq_false (by omega)]; rfl)), rfl⟩
          · refine g_iconst (q := 81) (v := (nI 1)) dX8_isSafe_80 rfl (by decide) ?_
            refine g_goto (q := 85) dX8_isSafe_81 (by decide) ?_
            refine g_istore_n (q := 86) rfl dX8_isSafe_85 rfl (by decide) rfl ?_
            refine g_iincN (q := 89) (c := 1) dX8_isSafe_86 rfl (by decide) rfl rfl (by decide) ?_
            refine g_goto (q := 42) dX8_isSafe_89 (by decide) ?_
            refine g_iload (q := 44) dX8_isSafe_42 rfl rfl ?_
            refine g_iconst (q := 45) (v := (nI 2)) dX8_isSafe_44 rfl (by decide) ?_
            refine g_icmpN_ge (q := 48) (t := 92) dX8_isSafe_45 rfl (by decide) (by omega) (by omega) (fun _ => ?_) (fun c => absurd c (by omega))
            refine g_iload_n (q := 93) dX8_isSafe_92 rfl rfl ?_
            refine g_ifN_eq (q := 96) (t := 104) dX8_isSafe_93 rfl (by decide) (by omega) (fun _ => ?_) (fun c => absurd c (by omega))
            refine g_iconst (q := 105) (v := (nI 0)) dX8_isSafe_104 rfl (by decide) ?_
            exact g_zret dX8_isSafe_105 rfl rfl ⟨congrArg (fun c => some (Value.int c)) (by unfold m_safe; simp only [Nat.reduceMul, Nat.reduceAdd] at *; first | (rw [decide_eq_true (by omega)]; rfl) | (rw [decide_eq_false (by omega)]; rfl)), rfl⟩
  · refine g_aload_n (q := 18) dX8_isSafe_17 rfl rfl ?_
    refine gb_getf (q := 21) (j := 0) (i := 0) dX8_isSafe_18 rfl fl_X8_23 hB rfl rfl rfl rfl ?_
    refine g_iconst (q := 22) (v := (nI 3)) dX8_isSafe_21 rfl (by decide) ?_
    refine g_iconst (q := 23) (v := (nI 0)) dX8_isSafe_22 rfl (by decide) ?_
    refine gb_callV (q := 26) (j := 1) (i := 0) dX8_isSafe_23 rfl kv_X8_104 (c_blockingKinds (k := 3) (rx := false) (tb := D.2.2.1) (by decide) (fun i hi => ⟨hD.2.2.1 i hi, hd.2.1 i hi⟩) (hB.1.at (j := 1) rfl)) rfl (by decide) hB rfl rfl rfl rfl (bz_le rfl) (by decide) (by decide) (fun r g1 hQ => ?_)
    obtain ⟨rfl, hg⟩ := hQ
    have hg := hg.symm
    subst hg
    refine g_iload_n (q := 27) dX8_isSafe_26 rfl rfl ?_
    refine g_iand (q := 28) dX8_isSafe_27 rfl ?_
    refine g_eqi (v := nI (s_bk D.2.2.1 3 false 4 &&& 6)) ((bz_and16 _ (s_bk_lt _ _ _ 4) 6 (by decide)).1) ?_
    refine g_ifN_ne (q := 31) (t := 35) dX8_isSafe_28 rfl (by decide) (by have := (bz_and16 (s_bk D.2.2.1 3 false 4) (s_bk_lt _ _ _ 4) 6 (by decide)).2; omega) (fun c_28 => ?_) (fun c_28 => ?_)
    · refine g_iconst (q := 36) (v := (nI 0)) dX8_isSafe_35 rfl (by decide) ?_
      refine g_istore_n (q := 37) rfl dX8_isSafe_36 rfl (by decide) rfl ?_
      refine g_iconst (q := 38) (v := (nI 1)) dX8_isSafe_37 rfl (by decide) ?_
      refine g_istore_n (q := 39) rfl dX8_isSafe_38 rfl (by decide) rfl ?_
      refine g_iconst (q := 40) (v := (nI 0)) dX8_isSafe_39 rfl (by decide) ?_
      refine g_istore (q := 42) dX8_isSafe_40 rfl (by decide) rfl ?_
      refine g_iload (q := 44) dX8_isSafe_42 rfl rfl ?_
      refine g_iconst (q := 45) (v := (nI 2)) dX8_isSafe_44 rfl (by decide) ?_
      refine g_icmpN_ge (q := 48) (t := 92) dX8_isSafe_45 rfl (by decide) (by omega) (by omega) (fun c => absurd c (by omega)) (fun _ => ?_)
      refine g_iload_n (q := 49) dX8_isSafe_48 rfl rfl ?_
      refine g_ifN_eq (q := 52) (t := 84) dX8_isSafe_49 rfl (by decide) (by omega) (fun c => absurd c (by omega)) (fun _ => ?_)
      refine g_aload_n (q := 53) dX8_isSafe_52 rfl rfl ?_
      refine gb_getf (q := 56) (j := 0) (i := 0) dX8_isSafe_53 rfl fl_X8_23 hB rfl rfl rfl rfl ?_
      refine g_iload (q := 58) dX8_isSafe_56 rfl rfl ?_
      refine g_iconst (q := 59) (v := (nI 0)) dX8_isSafe_58 rfl (by decide) ?_
      refine gb_callV (q := 62) (j := 1) (i := 0) dX8_isSafe_59 rfl kv_X8_112 (c_creditsOf (k := 0) (by decide) (hB.1.at (j := 1) rfl)) rfl (by decide) hB rfl rfl rfl rfl (bz_le rfl) (by decide) (by decide) (fun r g1 hQ => ?_)
      obtain ⟨rfl, hg⟩ := hQ
      have hg := hg.symm
      subst hg
      refine g_eqi (v := nI (D.2.1 _)) (hD.2.1 _ (by decide)) ?_
      refine g_iconst (q := 63) (v := (nI 1)) dX8_isSafe_62 rfl (by decide) ?_
      refine g_icmpN_lt (q := 66) (t := 84) dX8_isSafe_63 rfl (by decide) (Nat.lt_of_le_of_lt (hc8 _ (by decide)) (by decide)) (by decide) (fun c_63 => ?_) (fun c_63 => ?_)
      · refine g_iconst (q := 85) (v := (nI 0)) dX8_isSafe_84 rfl (by decide) ?_
        refine g_istore_n (q := 86) rfl dX8_isSafe_85 rfl (by decide) rfl ?_
        refine g_iincN (q := 89) (c := 1) dX8_isSafe_86 rfl (by decide) rfl rfl (by decide) ?_
        refine g_goto (q := 42) dX8_isSafe_89 (by decide) ?_
        refine g_iload (q := 44) dX8_isSafe_42 rfl rfl ?_
        refine g_iconst (q := 45) (v := (nI 2)) dX8_isSafe_44 rfl (by decide) ?_
        refine g_icmpN_ge (q := 48) (t := 92) dX8_isSafe_45 rfl (by decide) (by omega) (by omega) (fun c => absurd c (by omega)) (fun _ => ?_)
        refine g_iload_n (q := 49) dX8_isSafe_48 rfl rfl ?_
        refine g_ifN_eq (q := 52) (t := 84) dX8_isSafe_49 rfl (by decide) (by omega) (fun _ => ?_) (fun c => absurd c (by omega))
        refine g_iconst (q := 85) (v := (nI 0)) dX8_isSafe_84 rfl (by decide) ?_
        refine g_istore_n (q := 86) rfl dX8_isSafe_85 rfl (by decide) rfl ?_
        refine g_iincN (q := 89) (c := 1) dX8_isSafe_86 rfl (by decide) rfl rfl (by decide) ?_
        refine g_goto (q := 42) dX8_isSafe_89 (by decide) ?_
        refine g_iload (q := 44) dX8_isSafe_42 rfl rfl ?_
        refine g_iconst (q := 45) (v := (nI 2)) dX8_isSafe_44 rfl (by decide) ?_
        refine g_icmpN_ge (q := 48) (t := 92) dX8_isSafe_45 rfl (by decide) (by omega) (by omega) (fun _ => ?_) (fun c => absurd c (by omega))
        refine g_iload_n (q := 93) dX8_isSafe_92 rfl rfl ?_
        refine g_ifN_eq (q := 96) (t := 104) dX8_isSafe_93 rfl (by decide) (by omega) (fun _ => ?_) (fun c => absurd c (by omega))
        refine g_iconst (q := 105) (v := (nI 0)) dX8_isSafe_104 rfl (by decide) ?_
        exact g_zret dX8_isSafe_105 rfl rfl ⟨congrArg (fun c => some (Value.int c)) (by unfold m_safe; simp only [Nat.reduceMul, Nat.reduceAdd] at *; first | (rw [decide_eq_true (by omega)]; rfl) | (rw [decide_eq_false (by omega)]; rfl)), rfl⟩
      · refine g_aload_n (q := 67) dX8_isSafe_66 rfl rfl ?_
        refine gb_getf (q := 70) (j := 0) (i := 0) dX8_isSafe_67 rfl fl_X8_23 hB rfl rfl rfl rfl ?_
        refine g_iload (q := 72) dX8_isSafe_70 rfl rfl ?_
        refine g_iconst (q := 73) (v := (nI 3)) dX8_isSafe_72 rfl (by decide) ?_
        refine gb_callV (q := 76) (j := 1) (i := 0) dX8_isSafe_73 rfl kv_X8_112 (c_creditsOf (k := 3) (by decide) (hB.1.at (j := 1) rfl)) rfl (by decide) hB rfl rfl rfl rfl (bz_le rfl) (by decide) (by decide) (fun r g1 hQ => ?_)
        obtain ⟨rfl, hg⟩ := hQ
        have hg := hg.symm
        subst hg
        refine g_eqi (v := nI (D.2.1 _)) (hD.2.1 _ (by decide)) ?_
        refine g_iconst (q := 77) (v := (nI 1)) dX8_isSafe_76 rfl (by decide) ?_
        refine g_icmpN_lt (q := 80) (t := 84) dX8_isSafe_77 rfl (by decide) (Nat.lt_of_le_of_lt (hc8 _ (by decide)) (by decide)) (by decide) (fun c_77 => ?_) (fun c_77 => ?_)
        · refine g_iconst (q := 85) (v := (nI 0)) dX8_isSafe_84 rfl (by decide) ?_
          refine g_istore_n (q := 86) rfl dX8_isSafe_85 rfl (by decide) rfl ?_
          refine g_iincN (q := 89) (c := 1) dX8_isSafe_86 rfl (by decide) rfl rfl (by decide) ?_
          refine g_goto (q := 42) dX8_isSafe_89 (by decide) ?_
          refine g_iload (q := 44) dX8_isSafe_42 rfl rfl ?_
          refine g_iconst (q := 45) (v := (nI 2)) dX8_isSafe_44 rfl (by decide) ?_
          refine g_icmpN_ge (q := 48) (t := 92) dX8_isSafe_45 rfl (by decide) (by omega) (by omega) (fun c => absurd c (by omega)) (fun _ => ?_)
          refine g_iload_n (q := 49) dX8_isSafe_48 rfl rfl ?_
          refine g_ifN_eq (q := 52) (t := 84) dX8_isSafe_49 rfl (by decide) (by omega) (fun _ => ?_) (fun c => absurd c (by omega))
          refine g_iconst (q := 85) (v := (nI 0)) dX8_isSafe_84 rfl (by decide) ?_
          refine g_istore_n (q := 86) rfl dX8_isSafe_85 rfl (by decide) rfl ?_
          refine g_iincN (q := 89) (c := 1) dX8_isSafe_86 rfl (by decide) rfl rfl (by decide) ?_
          refine g_goto (q := 42) dX8_isSafe_89 (by decide) ?_
          refine g_iload (q := 44) dX8_isSafe_42 rfl rfl ?_
          refine g_iconst (q := 45) (v := (nI 2)) dX8_isSafe_44 rfl (by decide) ?_
          refine g_icmpN_ge (q := 48) (t := 92) dX8_isSafe_45 rfl (by decide) (by omega) (by omega) (fun _ => ?_) (fun c => absurd c (by omega))
          refine g_iload_n (q := 93) dX8_isSafe_92 rfl rfl ?_
          refine g_ifN_eq (q := 96) (t := 104) dX8_isSafe_93 rfl (by decide) (by omega) (fun _ => ?_) (fun c => absurd c (by omega))
          refine g_iconst (q := 105) (v := (nI 0)) dX8_isSafe_104 rfl (by decide) ?_
          exact g_zret dX8_isSafe_105 rfl rfl ⟨congrArg (fun c => some (Value.int c)) (by unfold m_safe; simp only [Nat.reduceMul, Nat.reduceAdd] at *; first | (rw [decide_eq_true (by omega)]; rfl) | (rw [decide_eq_false (by omega)]; rfl)), rfl⟩
        · refine g_iconst (q := 81) (v := (nI 1)) dX8_isSafe_80 rfl (by decide) ?_
          refine g_goto (q := 85) dX8_isSafe_81 (by decide) ?_
          refine g_istore_n (q := 86) rfl dX8_isSafe_85 rfl (by decide) rfl ?_
          refine g_iincN (q := 89) (c := 1) dX8_isSafe_86 rfl (by decide) rfl rfl (by decide) ?_
          refine g_goto (q := 42) dX8_isSafe_89 (by decide) ?_
          refine g_iload (q := 44) dX8_isSafe_42 rfl rfl ?_
          refine g_iconst (q := 45) (v := (nI 2)) dX8_isSafe_44 rfl (by decide) ?_
          refine g_icmpN_ge (q := 48) (t := 92) dX8_isSafe_45 rfl (by decide) (by omega) (by omega) (fun c => absurd c (by omega)) (fun _ => ?_)
          refine g_iload_n (q := 49) dX8_isSafe_48 rfl rfl ?_
          refine g_ifN_eq (q := 52) (t := 84) dX8_isSafe_49 rfl (by decide) (by omega) (fun c => absurd c (by omega)) (fun _ => ?_)
          refine g_aload_n (q := 53) dX8_isSafe_52 rfl rfl ?_
          refine gb_getf (q := 56) (j := 0) (i := 0) dX8_isSafe_53 rfl fl_X8_23 hB rfl rfl rfl rfl ?_
          refine g_iload (q := 58) dX8_isSafe_56 rfl rfl ?_
          refine g_iconst (q := 59) (v := (nI 0)) dX8_isSafe_58 rfl (by decide) ?_
          refine gb_callV (q := 62) (j := 1) (i := 0) dX8_isSafe_59 rfl kv_X8_112 (c_creditsOf (k := 0) (by decide) (hB.1.at (j := 1) rfl)) rfl (by decide) hB rfl rfl rfl rfl (bz_le rfl) (by decide) (by decide) (fun r g1 hQ => ?_)
          obtain ⟨rfl, hg⟩ := hQ
          have hg := hg.symm
          subst hg
          refine g_eqi (v := nI (D.2.1 _)) (hD.2.1 _ (by decide)) ?_
          refine g_iconst (q := 63) (v := (nI 1)) dX8_isSafe_62 rfl (by decide) ?_
          refine g_icmpN_lt (q := 66) (t := 84) dX8_isSafe_63 rfl (by decide) (Nat.lt_of_le_of_lt (hc8 _ (by decide)) (by decide)) (by decide) (fun c_63 => ?_) (fun c_63 => ?_)
          · refine g_iconst (q := 85) (v := (nI 0)) dX8_isSafe_84 rfl (by decide) ?_
            refine g_istore_n (q := 86) rfl dX8_isSafe_85 rfl (by decide) rfl ?_
            refine g_iincN (q := 89) (c := 1) dX8_isSafe_86 rfl (by decide) rfl rfl (by decide) ?_
            refine g_goto (q := 42) dX8_isSafe_89 (by decide) ?_
            refine g_iload (q := 44) dX8_isSafe_42 rfl rfl ?_
            refine g_iconst (q := 45) (v := (nI 2)) dX8_isSafe_44 rfl (by decide) ?_
            refine g_icmpN_ge (q := 48) (t := 92) dX8_isSafe_45 rfl (by decide) (by omega) (by omega) (fun _ => ?_) (fun c => absurd c (by omega))
            refine g_iload_n (q := 93) dX8_isSafe_92 rfl rfl ?_
            refine g_ifN_eq (q := 96) (t := 104) dX8_isSafe_93 rfl (by decide) (by omega) (fun _ => ?_) (fun c => absurd c (by omega))
            refine g_iconst (q := 105) (v := (nI 0)) dX8_isSafe_104 rfl (by decide) ?_
            exact g_zret dX8_isSafe_105 rfl rfl ⟨congrArg (fun c => some (Value.int c)) (by unfold m_safe; simp only [Nat.reduceMul, Nat.reduceAdd] at *; first | (rw [decide_eq_true (by omega)]; rfl) | (rw [decide_eq_false (by omega)]; rfl)), rfl⟩
          · refine g_aload_n (q := 67) dX8_isSafe_66 rfl rfl ?_
            refine gb_getf (q := 70) (j := 0) (i := 0) dX8_isSafe_67 rfl fl_X8_23 hB rfl rfl rfl rfl ?_
            refine g_iload (q := 72) dX8_isSafe_70 rfl rfl ?_
            refine g_iconst (q := 73) (v := (nI 3)) dX8_isSafe_72 rfl (by decide) ?_
            refine gb_callV (q := 76) (j := 1) (i := 0) dX8_isSafe_73 rfl kv_X8_112 (c_creditsOf (k := 3) (by decide) (hB.1.at (j := 1) rfl)) rfl (by decide) hB rfl rfl rfl rfl (bz_le rfl) (by decide) (by decide) (fun r g1 hQ => ?_)
            obtain ⟨rfl, hg⟩ := hQ
            have hg := hg.symm
            subst hg
            refine g_eqi (v := nI (D.2.1 _)) (hD.2.1 _ (by decide)) ?_
            refine g_iconst (q := 77) (v := (nI 1)) dX8_isSafe_76 rfl (by decide) ?_
            refine g_icmpN_lt (q := 80) (t := 84) dX8_isSafe_77 rfl (by decide) (Nat.lt_of_le_of_lt (hc8 _ (by decide)) (by decide)) (by decide) (fun c_77 => ?_) (fun c_77 => ?_)
            · refine g_iconst (q := 85) (v := (nI 0)) dX8_isSafe_84 rfl (by decide) ?_
              refine g_istore_n (q := 86) rfl dX8_isSafe_85 rfl (by decide) rfl ?_
              refine g_iincN (q := 89) (c := 1) dX8_isSafe_86 rfl (by decide) rfl rfl (by decide) ?_
              refine g_goto (q := 42) dX8_isSafe_89 (by decide) ?_
              refine g_iload (q := 44) dX8_isSafe_42 rfl rfl ?_
              refine g_iconst (q := 45) (v := (nI 2)) dX8_isSafe_44 rfl (by decide) ?_
              refine g_icmpN_ge (q := 48) (t := 92) dX8_isSafe_45 rfl (by decide) (by omega) (by omega) (fun _ => ?_) (fun c => absurd c (by omega))
              refine g_iload_n (q := 93) dX8_isSafe_92 rfl rfl ?_
              refine g_ifN_eq (q := 96) (t := 104) dX8_isSafe_93 rfl (by decide) (by omega) (fun _ => ?_) (fun c => absurd c (by omega))
              refine g_iconst (q := 105) (v := (nI 0)) dX8_isSafe_104 rfl (by decide) ?_
              exact g_zret dX8_isSafe_105 rfl rfl ⟨congrArg (fun c => some (Value.int c)) (by unfold m_safe; simp only [Nat.reduceMul, Nat.reduceAdd] at *; first | (rw [decide_eq_true (by omega)]; rfl) | (rw [decide_eq_false (by omega)]; rfl)), rfl⟩
            · refine g_iconst (q := 81) (v := (nI 1)) dX8_isSafe_80 rfl (by decide) ?_
              refine g_goto (q := 85) dX8_isSafe_81 (by decide) ?_
              refine g_istore_n (q := 86) rfl dX8_isSafe_85 rfl (by decide) rfl ?_
              refine g_iincN (q := 89) (c := 1) dX8_isSafe_86 rfl (by decide) rfl rfl (by decide) ?_
              refine g_goto (q := 42) dX8_isSafe_89 (by decide) ?_
              refine g_iload (q := 44) dX8_isSafe_42 rfl rfl ?_
              refine g_iconst (q := 45) (v := (nI 2)) dX8_isSafe_44 rfl (by decide) ?_
              refine g_icmpN_ge (q := 48) (t := 92) dX8_isSafe_45 rfl (by decide) (by omega) (by omega) (fun _ => ?_) (fun c => absurd c (by omega))
              refine g_iload_n (q := 93) dX8_isSafe_92 rfl rfl ?_
              refine g_ifN_eq (q := 96) (t := 104) dX8_isSafe_93 rfl (by decide) (by omega) (fun _ => ?_) (fun c => absurd c (by omega))
              refine g_iconst (q := 105) (v := (nI 0)) dX8_isSafe_104 rfl (by decide) ?_
              exact g_zret dX8_isSafe_105 rfl rfl ⟨congrArg (fun c => some (Value.int c)) (by unfold m_safe; simp only [Nat.reduceMul, Nat.reduceAdd] at *; first | (rw [decide_eq_true (by omega)]; rfl) | (rw [decide_eq_false (by omega)]; rfl)), rfl⟩
    · refine g_iconst (q := 32) (v := (nI 1)) dX8_isSafe_31 rfl (by decide) ?_
      refine g_goto (q := 36) dX8_isSafe_32 (by decide) ?_
      refine g_istore_n (q := 37) rfl dX8_isSafe_36 rfl (by decide) rfl ?_
      refine g_iconst (q := 38) (v := (nI 1)) dX8_isSafe_37 rfl (by decide) ?_
      refine g_istore_n (q := 39) rfl dX8_isSafe_38 rfl (by decide) rfl ?_
      refine g_iconst (q := 40) (v := (nI 0)) dX8_isSafe_39 rfl (by decide) ?_
      refine g_istore (q := 42) dX8_isSafe_40 rfl (by decide) rfl ?_
      refine g_iload (q := 44) dX8_isSafe_42 rfl rfl ?_
      refine g_iconst (q := 45) (v := (nI 2)) dX8_isSafe_44 rfl (by decide) ?_
      refine g_icmpN_ge (q := 48) (t := 92) dX8_isSafe_45 rfl (by decide) (by omega) (by omega) (fun c => absurd c (by omega)) (fun _ => ?_)
      refine g_iload_n (q := 49) dX8_isSafe_48 rfl rfl ?_
      refine g_ifN_eq (q := 52) (t := 84) dX8_isSafe_49 rfl (by decide) (by omega) (fun c => absurd c (by omega)) (fun _ => ?_)
      refine g_aload_n (q := 53) dX8_isSafe_52 rfl rfl ?_
      refine gb_getf (q := 56) (j := 0) (i := 0) dX8_isSafe_53 rfl fl_X8_23 hB rfl rfl rfl rfl ?_
      refine g_iload (q := 58) dX8_isSafe_56 rfl rfl ?_
      refine g_iconst (q := 59) (v := (nI 0)) dX8_isSafe_58 rfl (by decide) ?_
      refine gb_callV (q := 62) (j := 1) (i := 0) dX8_isSafe_59 rfl kv_X8_112 (c_creditsOf (k := 0) (by decide) (hB.1.at (j := 1) rfl)) rfl (by decide) hB rfl rfl rfl rfl (bz_le rfl) (by decide) (by decide) (fun r g1 hQ => ?_)
      obtain ⟨rfl, hg⟩ := hQ
      have hg := hg.symm
      subst hg
      refine g_eqi (v := nI (D.2.1 _)) (hD.2.1 _ (by decide)) ?_
      refine g_iconst (q := 63) (v := (nI 1)) dX8_isSafe_62 rfl (by decide) ?_
      refine g_icmpN_lt (q := 66) (t := 84) dX8_isSafe_63 rfl (by decide) (Nat.lt_of_le_of_lt (hc8 _ (by decide)) (by decide)) (by decide) (fun c_63 => ?_) (fun c_63 => ?_)
      · refine g_iconst (q := 85) (v := (nI 0)) dX8_isSafe_84 rfl (by decide) ?_
        refine g_istore_n (q := 86) rfl dX8_isSafe_85 rfl (by decide) rfl ?_
        refine g_iincN (q := 89) (c := 1) dX8_isSafe_86 rfl (by decide) rfl rfl (by decide) ?_
        refine g_goto (q := 42) dX8_isSafe_89 (by decide) ?_
        refine g_iload (q := 44) dX8_isSafe_42 rfl rfl ?_
        refine g_iconst (q := 45) (v := (nI 2)) dX8_isSafe_44 rfl (by decide) ?_
        refine g_icmpN_ge (q := 48) (t := 92) dX8_isSafe_45 rfl (by decide) (by omega) (by omega) (fun c => absurd c (by omega)) (fun _ => ?_)
        refine g_iload_n (q := 49) dX8_isSafe_48 rfl rfl ?_
        refine g_ifN_eq (q := 52) (t := 84) dX8_isSafe_49 rfl (by decide) (by omega) (fun _ => ?_) (fun c => absurd c (by omega))
        refine g_iconst (q := 85) (v := (nI 0)) dX8_isSafe_84 rfl (by decide) ?_
        refine g_istore_n (q := 86) rfl dX8_isSafe_85 rfl (by decide) rfl ?_
        refine g_iincN (q := 89) (c := 1) dX8_isSafe_86 rfl (by decide) rfl rfl (by decide) ?_
        refine g_goto (q := 42) dX8_isSafe_89 (by decide) ?_
        refine g_iload (q := 44) dX8_isSafe_42 rfl rfl ?_
        refine g_iconst (q := 45) (v := (nI 2)) dX8_isSafe_44 rfl (by decide) ?_
        refine g_icmpN_ge (q := 48) (t := 92) dX8_isSafe_45 rfl (by decide) (by omega) (by omega) (fun _ => ?_) (fun c => absurd c (by omega))
        refine g_iload_n (q := 93) dX8_isSafe_92 rfl rfl ?_
        refine g_ifN_eq (q := 96) (t := 104) dX8_isSafe_93 rfl (by decide) (by omega) (fun c => absurd c (by omega)) (fun _ => ?_)
        refine g_iload_n (q := 97) dX8_isSafe_96 rfl rfl ?_
        refine g_ifN_eq (q := 100) (t := 104) dX8_isSafe_97 rfl (by decide) (by omega) (fun _ => ?_) (fun c => absurd c (by omega))
        refine g_iconst (q := 105) (v := (nI 0)) dX8_isSafe_104 rfl (by decide) ?_
        exact g_zret dX8_isSafe_105 rfl rfl ⟨congrArg (fun c => some (Value.int c)) (by unfold m_safe; simp only [Nat.reduceMul, Nat.reduceAdd] at *; first | (rw [decide_eq_true (by omega)]; rfl) | (rw [decide_eq_false (by omega)]; rfl)), rfl⟩
      · refine g_aload_n (q := 67) dX8_isSafe_66 rfl rfl ?_
        refine gb_getf (q := 70) (j := 0) (i := 0) dX8_isSafe_67 rfl fl_X8_23 hB rfl rfl rfl rfl ?_
        refine g_iload (q := 72) dX8_isSafe_70 rfl rfl ?_
        refine g_iconst (q := 73) (v := (nI 3)) dX8_isSafe_72 rfl (by decide) ?_
        refine gb_callV (q := 76) (j := 1) (i := 0) dX8_isSafe_73 rfl kv_X8_112 (c_creditsOf (k := 3) (by decide) (hB.1.at (j := 1) rfl)) rfl (by decide) hB rfl rfl rfl rfl (bz_le rfl) (by decide) (by decide) (fun r g1 hQ => ?_)
        obtain ⟨rfl, hg⟩ := hQ
        have hg := hg.symm
        subst hg
        refine g_eqi (v := nI (D.2.1 _)) (hD.2.1 _ (by decide)) ?_
        refine g_iconst (q := 77) (v := (nI 1)) dX8_isSafe_76 rfl (by decide) ?_
        refine g_icmpN_lt (q := 80) (t := 84) dX8_isSafe_77 rfl (by decide) (Nat.lt_of_le_of_lt (hc8 _ (by decide)) (by decide)) (by decide) (fun c_77 => ?_) (fun c_77 => ?_)
        · refine g_iconst (q := 85) (v := (nI 0)) dX8_isSafe_84 rfl (by decide) ?_
          refine g_istore_n (q := 86) rfl dX8_isSafe_85 rfl (by decide) rfl ?_
          refine g_iincN (q := 89) (c := 1) dX8_isSafe_86 rfl (by decide) rfl rfl (by decide) ?_
          refine g_goto (q := 42) dX8_isSafe_89 (by decide) ?_
          refine g_iload (q := 44) dX8_isSafe_42 rfl rfl ?_
          refine g_iconst (q := 45) (v := (nI 2)) dX8_isSafe_44 rfl (by decide) ?_
          refine g_icmpN_ge (q := 48) (t := 92) dX8_isSafe_45 rfl (by decide) (by omega) (by omega) (fun c => absurd c (by omega)) (fun _ => ?_)
          refine g_iload_n (q := 49) dX8_isSafe_48 rfl rfl ?_
          refine g_ifN_eq (q := 52) (t := 84) dX8_isSafe_49 rfl (by decide) (by omega) (fun _ => ?_) (fun c => absurd c (by omega))
          refine g_iconst (q := 85) (v := (nI 0)) dX8_isSafe_84 rfl (by decide) ?_
          refine g_istore_n (q := 86) rfl dX8_isSafe_85 rfl (by decide) rfl ?_
          refine g_iincN (q := 89) (c := 1) dX8_isSafe_86 rfl (by decide) rfl rfl (by decide) ?_
          refine g_goto (q := 42) dX8_isSafe_89 (by decide) ?_
          refine g_iload (q := 44) dX8_isSafe_42 rfl rfl ?_
          refine g_iconst (q := 45) (v := (nI 2)) dX8_isSafe_44 rfl (by decide) ?_
          refine g_icmpN_ge (q := 48) (t := 92) dX8_isSafe_45 rfl (by decide) (by omega) (by omega) (fun _ => ?_) (fun c => absurd c (by omega))
          refine g_iload_n (q := 93) dX8_isSafe_92 rfl rfl ?_
          refine g_ifN_eq (q := 96) (t := 104) dX8_isSafe_93 rfl (by decide) (by omega) (fun c => absurd c (by omega)) (fun _ => ?_)
          refine g_iload_n (q := 97) dX8_isSafe_96 rfl rfl ?_
          refine g_ifN_eq (q := 100) (t := 104) dX8_isSafe_97 rfl (by decide) (by omega) (fun _ => ?_) (fun c => absurd c (by omega))
          refine g_iconst (q := 105) (v := (nI 0)) dX8_isSafe_104 rfl (by decide) ?_
          exact g_zret dX8_isSafe_105 rfl rfl ⟨congrArg (fun c => some (Value.int c)) (by unfold m_safe; simp only [Nat.reduceMul, Nat.reduceAdd] at *; first | (rw [decide_eq_true (by omega)]; rfl) | (rw [decide_eq_false (by omega)]; rfl)), rfl⟩
        · refine g_iconst (q := 81) (v := (nI 1)) dX8_isSafe_80 rfl (by decide) ?_
          refine g_goto (q := 85) dX8_isSafe_81 (by decide) ?_
          refine g_istore_n (q := 86) rfl dX8_isSafe_85 rfl (by decide) rfl ?_
          refine g_iincN (q := 89) (c := 1) dX8_isSafe_86 rfl (by decide) rfl rfl (by decide) ?_
          refine g_goto (q := 42) dX8_isSafe_89 (by decide) ?_
          refine g_iload (q := 44) dX8_isSafe_42 rfl rfl ?_
          refine g_iconst (q := 45) (v := (nI 2)) dX8_isSafe_44 rfl (by decide) ?_
          refine g_icmpN_ge (q := 48) (t := 92) dX8_isSafe_45 rfl (by decide) (by omega) (by omega) (fun c => absurd c (by omega)) (fun _ => ?_)
          refine g_iload_n (q := 49) dX8_isSafe_48 rfl rfl ?_
          refine g_ifN_eq (q := 52) (t := 84) dX8_isSafe_49 rfl (by decide) (by omega) (fun c => absurd c (by omega)) (fun _ => ?_)
          refine g_aload_n (q := 53) dX8_isSafe_52 rfl rfl ?_
          refine gb_getf (q := 56) (j := 0) (i := 0) dX8_isSafe_53 rfl fl_X8_23 hB rfl rfl rfl rfl ?_
          refine g_iload (q := 58) dX8_isSafe_56 rfl rfl ?_
          refine g_iconst (q := 59) (v := (nI 0)) dX8_isSafe_58 rfl (by decide) ?_
          refine gb_callV (q := 62) (j := 1) (i := 0) dX8_isSafe_59 rfl kv_X8_112 (c_creditsOf (k := 0) (by decide) (hB.1.at (j := 1) rfl)) rfl (by decide) hB rfl rfl rfl rfl (bz_le rfl) (by decide) (by decide) (fun r g1 hQ => ?_)
          obtain ⟨rfl, hg⟩ := hQ
          have hg := hg.symm
          subst hg
          refine g_eqi (v := nI (D.2.1 _)) (hD.2.1 _ (by decide)) ?_
          refine g_iconst (q := 63) (v := (nI 1)) dX8_isSafe_62 rfl (by decide) ?_
          refine g_icmpN_lt (q := 66) (t := 84) dX8_isSafe_63 rfl (by decide) (Nat.lt_of_le_of_lt (hc8 _ (by decide)) (by decide)) (by decide) (fun c_63 => ?_) (fun c_63 => ?_)
          · refine g_iconst (q := 85) (v := (nI 0)) dX8_isSafe_84 rfl (by decide) ?_
            refine g_istore_n (q := 86) rfl dX8_isSafe_85 rfl (by decide) rfl ?_
            refine g_iincN (q := 89) (c := 1) dX8_isSafe_86 rfl (by decide) rfl rfl (by decide) ?_
            refine g_goto (q := 42) dX8_isSafe_89 (by decide) ?_
            refine g_iload (q := 44) dX8_isSafe_42 rfl rfl ?_
            refine g_iconst (q := 45) (v := (nI 2)) dX8_isSafe_44 rfl (by decide) ?_
            refine g_icmpN_ge (q := 48) (t := 92) dX8_isSafe_45 rfl (by decide) (by omega) (by omega) (fun _ => ?_) (fun c => absurd c (by omega))
            refine g_iload_n (q := 93) dX8_isSafe_92 rfl rfl ?_
            refine g_ifN_eq (q := 96) (t := 104) dX8_isSafe_93 rfl (by decide) (by omega) (fun c => absurd c (by omega)) (fun _ => ?_)
            refine g_iload_n (q := 97) dX8_isSafe_96 rfl rfl ?_
            refine g_ifN_eq (q := 100) (t := 104) dX8_isSafe_97 rfl (by decide) (by omega) (fun _ => ?_) (fun c => absurd c (by omega))
            refine g_iconst (q := 105) (v := (nI 0)) dX8_isSafe_104 rfl (by decide) ?_
            exact g_zret dX8_isSafe_105 rfl rfl ⟨congrArg (fun c => some (Value.int c)) (by unfold m_safe; simp only [Nat.reduceMul, Nat.reduceAdd] at *; first | (rw [decide_eq_true (by omega)]; rfl) | (rw [decide_eq_false (by omega)]; rfl)), rfl⟩
          · refine g_aload_n (q := 67) dX8_isSafe_66 rfl rfl ?_
            refine gb_getf (q := 70) (j := 0) (i := 0) dX8_isSafe_67 rfl fl_X8_23 hB rfl rfl rfl rfl ?_
            refine g_iload (q := 72) dX8_isSafe_70 rfl rfl ?_
            refine g_iconst (q := 73) (v := (nI 3)) dX8_isSafe_72 rfl (by decide) ?_
            refine gb_callV (q := 76) (j := 1) (i := 0) dX8_isSafe_73 rfl kv_X8_112 (c_creditsOf (k := 3) (by decide) (hB.1.at (j := 1) rfl)) rfl (by decide) hB rfl rfl rfl rfl (bz_le rfl) (by decide) (by decide) (fun r g1 hQ => ?_)
            obtain ⟨rfl, hg⟩ := hQ
            have hg := hg.symm
            subst hg
            refine g_eqi (v := nI (D.2.1 _)) (hD.2.1 _ (by decide)) ?_
            refine g_iconst (q := 77) (v := (nI 1)) dX8_isSafe_76 rfl (by decide) ?_
            refine g_icmpN_lt (q := 80) (t := 84) dX8_isSafe_77 rfl (by decide) (Nat.lt_of_le_of_lt (hc8 _ (by decide)) (by decide)) (by decide) (fun c_77 => ?_) (fun c_77 => ?_)
            · refine g_iconst (q := 85) (v := (nI 0)) dX8_isSafe_84 rfl (by decide) ?_
              refine g_istore_n (q := 86) rfl dX8_isSafe_85 rfl (by decide) rfl ?_
              refine g_iincN (q := 89) (c := 1) dX8_isSafe_86 rfl (by decide) rfl rfl (by decide) ?_
              refine g_goto (q := 42) dX8_isSafe_89 (by decide) ?_
              refine g_iload (q := 44) dX8_isSafe_42 rfl rfl ?_
              refine g_iconst (q := 45) (v := (nI 2)) dX8_isSafe_44 rfl (by decide) ?_
              refine g_icmpN_ge (q := 48) (t := 92) dX8_isSafe_45 rfl (by decide) (by omega) (by omega) (fun _ => ?_) (fun c => absurd c (by omega))
              refine g_iload_n (q := 93) dX8_isSafe_92 rfl rfl ?_
              refine g_ifN_eq (q := 96) (t := 104) dX8_isSafe_93 rfl (by decide) (by omega) (fun c => absurd c (by omega)) (fun _ => ?_)
              refine g_iload_n (q := 97) dX8_isSafe_96 rfl rfl ?_
              refine g_ifN_eq (q := 100) (t := 104) dX8_isSafe_97 rfl (by decide) (by omega) (fun _ => ?_) (fun c => absurd c (by omega))
              refine g_iconst (q := 105) (v := (nI 0)) dX8_isSafe_104 rfl (by decide) ?_
              exact g_zret dX8_isSafe_105 rfl rfl ⟨congrArg (fun c => some (Value.int c)) (by unfold m_safe; simp only [Nat.reduceMul, Nat.reduceAdd] at *; first | (rw [decide_eq_true (by omega)]; rfl) | (rw [decide_eq_false (by omega)]; rfl)), rfl⟩
            · refine g_iconst (q := 81) (v := (nI 1)) dX8_isSafe_80 rfl (by decide) ?_
              refine g_goto (q := 85) dX8_isSafe_81 (by decide) ?_
              refine g_istore_n (q := 86) rfl dX8_isSafe_85 rfl (by decide) rfl ?_
              refine g_iincN (q := 89) (c := 1) dX8_isSafe_86 rfl (by decide) rfl rfl (by decide) ?_
              refine g_goto (q := 42) dX8_isSafe_89 (by decide) ?_
              refine g_iload (q := 44) dX8_isSafe_42 rfl rfl ?_
              refine g_iconst (q := 45) (v := (nI 2)) dX8_isSafe_44 rfl (by decide) ?_
              refine g_icmpN_ge (q := 48) (t := 92) dX8_isSafe_45 rfl (by decide) (by omega) (by omega) (fun _ => ?_) (fun c => absurd c (by omega))
              refine g_iload_n (q := 93) dX8_isSafe_92 rfl rfl ?_
              refine g_ifN_eq (q := 96) (t := 104) dX8_isSafe_93 rfl (by decide) (by omega) (fun c => absurd c (by omega)) (fun _ => ?_)
              refine g_iload_n (q := 97) dX8_isSafe_96 rfl rfl ?_
              refine g_ifN_eq (q := 100) (t := 104) dX8_isSafe_97 rfl (by decide) (by omega) (fun c => absurd c (by omega)) (fun _ => ?_)
              refine g_iconst (q := 101) (v := (nI 1)) dX8_isSafe_100 rfl (by decide) ?_
              refine g_goto (q := 105) dX8_isSafe_101 (by decide) ?_
              exact g_zret dX8_isSafe_105 rfl rfl ⟨congrArg (fun c => some (Value.int c)) (by unfold m_safe; simp only [Nat.reduceMul, Nat.reduceAdd] at *; first | (rw [decide_eq_true (by omega)]; rfl) | (rw [decide_eq_false (by omega)]; rfl)), rfl⟩
