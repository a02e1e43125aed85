/-! class BridgeText: a factor, a sum -/
theorem x_step_40 {b : Nat → Nat} {n : Nat} {S : List Nat} {u : List Int32} {t : Tok} (h : kK t = 40) (h5 : x_open S < 5) : x_step b n (true, S, u, t) = .inl (true, 40 :: S, u, t_nx b n t) := by
  unfold x_step
  rw [if_pos rfl, if_pos h, if_pos h5]
theorem x_step_45 {b : Nat → Nat} {n : Nat} {S : List Nat} {u : List Int32} {t : Tok} (h : kK t = 40) (h5 : 5 ≤ x_open S) : x_step b n (true, S, u, t) = .inr (.inr (4, kS t)) := by
  unfold x_step
  rw [if_pos rfl, if_pos h, if_neg (by show ¬ x_open S < 5; omega)]
theorem x_step_f {b : Nat → Nat} {n : Nat} {S : List Nat} {u : List Int32} {t : Tok} {i : Int32} (h : kK t ≠ 40) (hf : x_fac b t = some i) : x_step b n (true, S, u, t) = .inl (false, S, u ++ [i], t_nx b n t) := by
  unfold x_step
  rw [if_pos rfl, if_neg h]
  dsimp only
  rw [hf]
theorem x_step_n {b : Nat → Nat} {n : Nat} {S : List Nat} {u : List Int32} {t : Tok} (h : kK t ≠ 40) (hf : x_fac b t = none) : x_step b n (true, S, u, t) = .inr (.inr (1, kS t)) := by
  unfold x_step
  rw [if_pos rfl, if_neg h]
  dsimp only
  rw [hf]
theorem x_step_op {b : Nat → Nat} {n : Nat} {S : List Nat} {u : List Int32} {t : Tok} (h : 0 < t_rk (kK t)) : x_step b n (false, S, u, t) = .inl (true, kK t :: (x_fl (t_rk (kK t)) S u).1, (x_fl (t_rk (kK t)) S u).2, t_nx b n t) := by
  unfold x_step
  rw [if_neg (show ¬ false = true by decide), if_pos h]
theorem x_step_cl {b : Nat → Nat} {n : Nat} {S : List Nat} {u : List Int32} {t : Tok} (h : kK t = 41) (ho : 0 < x_open S) : x_step b n (false, S, u, t) = .inl (false, (x_fl 1 S u).1.tail, (x_fl 1 S u).2, t_nx b n t) := by
  unfold x_step
  rw [if_neg (show ¬ false = true by decide), if_neg (by show ¬ 0 < t_rk (kK t); rw [h]; decide), if_pos ⟨h, ho⟩]
theorem x_step_e {b : Nat → Nat} {n : Nat} {S : List Nat} {u : List Int32} {t : Tok} (h : t_rk (kK t) = 0) (hc : kK t = 41 → x_open S = 0) : x_step b n (false, S, u, t) = if 0 < x_open S then .inr (.inr (1, kS t)) else .inr (.inl ((x_fl 1 S u).2, t)) := by
  unfold x_step
  rw [if_neg (show ¬ false = true by decide), if_neg (by show ¬ 0 < t_rk (kK t); omega), if_neg (by show ¬ (kK t = 41 ∧ 0 < x_open S); intro q; have := hc q.1; omega)]
theorem t_is_end {b : Nat → Nat} {n : Nat} {t : Tok} (h : t_is b n t) (hq : n ≤ kS t) : kK t = 0 := by
  obtain ⟨p, hp, rfl⟩ := h
  have h1 := (t_at_le (b := b) hp).1
  rw [t_at_0 (by omega)]
theorem k_fail_0 {e : Nat × Nat} {c : Nat} {t : Tok} (h : e.1 = 0) : k_fail e c t = (c, kS t) := if_pos h
theorem k_fail_1 {e : Nat × Nat} {c : Nat} {t : Tok} (h : e.1 ≠ 0) : k_fail e c t = e := if_neg h
set_option maxRecDepth 20000 in
set_option maxHeartbeats 1000000 in
theorem c_beginFactor {l : Launch} {E : bz_E} {L : List Nat} {g : Nat → va_E} {o x n y : Nat} {b : Nat → Nat} {f0 pd v0 it : Nat → Int32} {t : Tok} {e : Nat × Nat} {nm ep hs ht1 : Int32} {S : List Nat} {u : List Int32} (hb : ∀ i, b i < 256) (hn : n ≤ 600) (hd : o + 3 ≤ x ∨ x + 1 ≤ o) (hi : x_inv b n (true, S, u, t)) (he : e.1 = 0) (hk : k_ok t e nm ep) (hsk : k_sk pd S) (hit : k_it it u) (hW : bz_W L g [(o, (b_T E o x n (kE t) (kK t) (kS t) nm (nI e.1) ep hs ht1 f0 pd (nI S.length) (nI (x_open S)))), (y, b_Sum E y v0 it (nI u.length)), (x, b_In E b)]) : bz_K l E mX0_beginFactor 5 [.ref o, .ref y] L g (fun r g1 => r = none ∧ ∃ (S1 : List Nat) (u1 : List Int32) (e1 : Nat × Nat) (ep1 : Int32) (pd1 it1 : Nat → Int32), bz_B L g g1 [(o, (b_T E o x n (kE t) (kK t) (kS t) nm (nI e1.1) ep1 hs ht1 f0 pd1 (nI S1.length) (nI (x_open S1)))), (y, b_Sum E y v0 it1 (nI u1.length))] ∧ k_ok t e1 nm ep1 ∧ k_sk pd1 S1 ∧ k_it it1 u1 ∧ ((x_step b n (true, S, u, t) = .inl (decide (kK t = 40), S1, u1, t_nx b n t) ∧ e1 = e) ∨ (x_step b n (true, S, u, t) = .inr (.inr e1) ∧ S1 = S ∧ u1 = u))) := by
  refine bz_K.of (by decide) (bz_le rfl) (fun sz => ?_)
  show bz_G _ _ _ _ _ _ _ _ _ _ _ _ 0 [(0, .ref o), (1, .ref y)] []
  have hB := bz_B.rf hW
  have hi1 : t_is b n t := hi.1
  have hle := hi1.le
  have h256 := hi1.k256 hb
  have hbn := hi.2.1.bnd hi.2.2.1
  have hbo : x_open S ≤ 5 := hi.2.2.1
  have hbn : S.length ≤ 17 ∧ x_ops S ≤ 12 := hbn
  have hlu : u.length + S.length ≤ kS t := hi.2.2.2.2
  have hul : u.length < 600 ∨ kK t = 0 := by
    rcases Nat.lt_or_ge (kS t) n with q | q
    · exact Or.inl (by omega)
    · exact Or.inr (t_is_end hi1 q)
  refine g_aload_n (q := 1) dX0_beginFactor_0 rfl rfl ?_
  refine gb_getf (q := 4) (j := 0) (i := 0) dX0_beginFactor_1 rfl fl_X0_47 hB rfl rfl rfl rfl ?_
  refine g_bipush (q := 6) (v := (nI 40)) dX0_beginFactor_4 rfl (by decide) ?_
  refine g_icmpN_ne (q := 9) (t := 16) dX0_beginFactor_6 rfl (by decide) (by omega) (by omega) (fun c_6 => ?_) (fun c_6 => ?_)
  · refine g_aload_n (q := 17) dX0_beginFactor_16 rfl rfl ?_
    refine gb_getf (q := 20) (j := 0) (i := 0) dX0_beginFactor_17 rfl fl_X0_47 hB rfl rfl rfl rfl ?_
    refine g_iconst (q := 21) (v := (nI 3)) dX0_beginFactor_20 rfl (by decide) ?_
    refine g_icmpN_ne (q := 24) (t := 35) dX0_beginFactor_21 rfl (by decide) (by omega) (by omega) (fun c_21 => ?_) (fun c_21 => ?_)
    · refine g_aload_n (q := 36) dX0_beginFactor_35 rfl rfl ?_
      refine g_ldcS (q := 38) (tx := "kind") (i := 7) dX0_beginFactor_36 rfl (by decide +kernel) ?_
      refine gb_callV (q := 41) (j := 0) (i := 0) dX0_beginFactor_38 rfl kv_X0_62 (c_isWord (i := 7) hb hn hd (hB.1.at (j := 2) rfl) (by decide) hi1 (hB.1.at (j := 0) rfl)) rfl (by decide) hB rfl rfl rfl rfl (bz_le rfl) (by decide) (by decide) (fun r g1 hQ => ?_)
      obtain ⟨rfl, hg⟩ := hQ
      have hg := hg.symm
      subst hg
      refine g_if_eq (q := 44) (t := 52) dX0_beginFactor_41 rfl (by decide) (fun c_41 => ?_) (fun c_41 => ?_)
      · refine g_aload_n (q := 53) dX0_beginFactor_52 rfl rfl ?_
        refine g_ldcS (q := 55) (tx := "address") (i := 8) dX0_beginFactor_53 rfl (by decide +kernel) ?_
        refine gb_callV (q := 58) (j := 0) (i := 0) dX0_beginFactor_55 rfl kv_X0_62 (c_isWord (i := 8) hb hn hd (hB.1.at (j := 2) rfl) (by decide) hi1 (hB.1.at (j := 0) rfl)) rfl (by decide) hB rfl rfl rfl rfl (bz_le rfl) (by decide) (by decide) (fun r g1 hQ => ?_)
        obtain ⟨rfl, hg⟩ := hQ
        have hg := hg.symm
        subst hg
        refine g_if_eq (q := 61) (t := 70) dX0_beginFactor_58 rfl (by decide) (fun c_58 => ?_) (fun c_58 => ?_)
        · refine g_aload_n (q := 71) dX0_beginFactor_70 rfl rfl ?_
          refine g_ldcS (q := 73) (tx := "words") (i := 9) dX0_beginFactor_71 rfl (by decide +kernel) ?_
          refine gb_callV (q := 76) (j := 0) (i := 0) dX0_beginFactor_73 rfl kv_X0_62 (c_isWord (i := 9) hb hn hd (hB.1.at (j := 2) rfl) (by decide) hi1 (hB.1.at (j := 0) rfl)) rfl (by decide) hB rfl rfl rfl rfl (bz_le rfl) (by decide) (by decide) (fun r g1 hQ => ?_)
          obtain ⟨rfl, hg⟩ := hQ
          have hg := hg.symm
          subst hg
          refine g_if_eq (q := 79) (t := 88) dX0_beginFactor_76 rfl (by decide) (fun c_76 => ?_) (fun c_76 => ?_)
          · refine g_aload_n (q := 89) dX0_beginFactor_88 rfl rfl ?_
            refine g_ldcS (q := 91) (tx := "tick") (i := 10) dX0_beginFactor_89 rfl (by decide +kernel) ?_
            refine gb_callV (q := 94) (j := 0) (i := 0) dX0_beginFactor_91 rfl kv_X0_62 (c_isWord (i := 10) hb hn hd (hB.1.at (j := 2) rfl) (by decide) hi1 (hB.1.at (j := 0) rfl)) rfl (by decide) hB rfl rfl rfl rfl (bz_le rfl) (by decide) (by decide) (fun r g1 hQ => ?_)
            obtain ⟨rfl, hg⟩ := hQ
            have hg := hg.symm
            subst hg
            refine g_if_eq (q := 97) (t := 106) dX0_beginFactor_94 rfl (by decide) (fun c_94 => ?_) (fun c_94 => ?_)
            · refine g_aload_n (q := 107) dX0_beginFactor_106 rfl rfl ?_
              refine g_iconst (q := 108) (v := (nI 1)) dX0_beginFactor_107 rfl (by decide) ?_
              refine gb_callV (q := 111) (j := 0) (i := 0) dX0_beginFactor_108 rfl kv_X0_114 (c_fail (t := t) (e := e) (ep := ep) (c := 1) (by decide) hk (hB.1.at (j := 0) rfl)) rfl (by decide) hB rfl rfl rfl rfl (bz_le rfl) (by decide) (by decide) (fun r g1 hQ => ?_)
              obtain ⟨rfl, ep1, h1, hk1⟩ := hQ
              have hB := hB.sp (j := 0) rfl 0 rfl h1 (bz_le rfl)
              exact g_vret dX0_beginFactor_111 rfl (⟨rfl, S, u, k_fail e 1 t, ep1, pd, it, bz_B.last (bs := [_, _]) hB (hW.1 (x, b_In E b) (List.mem_cons_of_mem _ (List.mem_cons_of_mem _ List.mem_cons_self))), hk1, hsk, hit, Or.inr ⟨by rw [x_step_n c_6 (by unfold x_fac; rw [if_neg c_21, if_neg (by rw [show t_wd b t w_kind = false from tB_0 c_41]; decide), if_neg (by rw [show t_wd b t w_address = false from tB_0 c_58]; decide), if_neg (by rw [show t_wd b t w_words = false from tB_0 c_76]; decide), if_neg (by rw [show t_wd b t w_tick = false from tB_0 c_94]; decide)]), k_fail_0 he], rfl, rfl⟩⟩)
            · refine g_aload_n (q := 98) dX0_beginFactor_97 rfl rfl ?_
              refine g_bipush (q := 100) (v := (-4)) dX0_beginFactor_98 rfl (by decide) ?_
              refine gb_callV (q := 103) (j := 1) (i := 0) dX0_beginFactor_100 rfl kv_X0_152 (c_sadd (n := u.length) (x := -4) (by have := (t_wd_k (tB_1 c_94)).1; omega) (hB.1.at (j := 1) rfl)) rfl (by decide) hB rfl rfl rfl rfl (bz_le rfl) (by decide) (by decide) (fun r g1 hQ => ?_)
              obtain ⟨rfl, h1⟩ := hQ
              have hB := hB.sp (j := 1) rfl 0 rfl h1 (bz_le rfl)
              refine g_goto (q := 111) dX0_beginFactor_103 (by decide) ?_
              exact g_vret dX0_beginFactor_111 rfl (⟨rfl, S, u ++ [-4], e, ep, pd, upd it u.length (-4), by rw [List.length_append]; exact bz_B.last (bs := [_, _]) hB (hW.1 (x, b_In E b) (List.mem_cons_of_mem _ (List.mem_cons_of_mem _ List.mem_cons_self))), hk, hsk, hit.app, Or.inl ⟨by rw [x_step_f c_6 (by unfold x_fac; rw [if_neg c_21, if_neg (by rw [show t_wd b t w_kind = false from tB_0 c_41]; decide), if_neg (by rw [show t_wd b t w_address = false from tB_0 c_58]; decide), if_neg (by rw [show t_wd b t w_words = false from tB_0 c_76]; decide), if_pos (show t_wd b t w_tick = true from tB_1 c_94)]), decide_eq_false c_6], rfl⟩⟩)
          · refine g_aload_n (q := 80) dX0_beginFactor_79 rfl rfl ?_
            refine g_bipush (q := 82) (v := (-3)) dX0_beginFactor_80 rfl (by decide) ?_
            refine gb_callV (q := 85) (j := 1) (i := 0) dX0_beginFactor_82 rfl kv_X0_152 (c_sadd (n := u.length) (x := -3) (by have := (t_wd_k (tB_1 c_76)).1; omega) (hB.1.at (j := 1) rfl)) rfl (by decide) hB rfl rfl rfl rfl (bz_le rfl) (by decide) (by decide) (fun r g1 hQ => ?_)
            obtain ⟨rfl, h1⟩ := hQ
            have hB := hB.sp (j := 1) rfl 0 rfl h1 (bz_le rfl)
            refine g_goto (q := 111) dX0_beginFactor_85 (by decide) ?_
            exact g_vret dX0_beginFactor_111 rfl (⟨rfl, S, u ++ [-3], e, ep, pd, upd it u.length (-3), by rw [List.length_append]; exact bz_B.last (bs := [_, _]) hB (hW.1 (x, b_In E b) (List.mem_cons_of_mem _ (List.mem_cons_of_mem _ List.mem_cons_self))), hk, hsk, hit.app, Or.inl ⟨by rw [x_step_f c_6 (by unfold x_fac; rw [if_neg c_21, if_neg (by rw [show t_wd b t w_kind = false from tB_0 c_41]; decide), if_neg (by rw [show t_wd b t w_address = false from tB_0 c_58]; decide), if_pos (show t_wd b t w_words = true from tB_1 c_76)]), decide_eq_false c_6], rfl⟩⟩)
        · refine g_aload_n (q := 62) dX0_beginFactor_61 rfl rfl ?_
          refine g_bipush (q := 64) (v := (-2)) dX0_beginFactor_62 rfl (by decide) ?_
          refine gb_callV (q := 67) (j := 1) (i := 0) dX0_beginFactor_64 rfl kv_X0_152 (c_sadd (n := u.length) (x := -2) (by have := (t_wd_k (tB_1 c_58)).1; omega) (hB.1.at (j := 1) rfl)) rfl (by decide) hB rfl rfl rfl rfl (bz_le rfl) (by decide) (by decide) (fun r g1 hQ => ?_)
          obtain ⟨rfl, h1⟩ := hQ
          have hB := hB.sp (j := 1) rfl 0 rfl h1 (bz_le rfl)
          refine g_goto (q := 111) dX0_beginFactor_67 (by decide) ?_
          exact g_vret dX0_beginFactor_111 rfl (⟨rfl, S, u ++ [-2], e, ep, pd, upd it u.length (-2), by rw [List.length_append]; exact bz_B.last (bs := [_, _]) hB (hW.1 (x, b_In E b) (List.mem_cons_of_mem _ (List.mem_cons_of_mem _ List.mem_cons_self))), hk, hsk, hit.app, Or.inl ⟨by rw [x_step_f c_6 (by unfold x_fac; rw [if_neg c_21, if_neg (by rw [show t_wd b t w_kind = false from tB_0 c_41]; decide), if_pos (show t_wd b t w_address = true from tB_1 c_58)]), decide_eq_false c_6], rfl⟩⟩)
      · refine g_aload_n (q := 45) dX0_beginFactor_44 rfl rfl ?_
        refine g_iconst (q := 46) (v := (-1)) dX0_beginFactor_45 rfl (by decide) ?_
        refine gb_callV (q := 49) (j := 1) (i := 0) dX0_beginFactor_46 rfl kv_X0_152 (c_sadd (n := u.length) (x := -1) (by have := (t_wd_k (tB_1 c_41)).1; omega) (hB.1.at (j := 1) rfl)) rfl (by decide) hB rfl rfl rfl rfl (bz_le rfl) (by decide) (by decide) (fun r g1 hQ => ?_)
        obtain ⟨rfl, h1⟩ := hQ
        have hB := hB.sp (j := 1) rfl 0 rfl h1 (bz_le rfl)
        refine g_goto (q := 111) dX0_beginFactor_49 (by decide) ?_
        exact g_vret dX0_beginFactor_111 rfl (⟨rfl, S, u ++ [-1], e, ep, pd, upd it u.length (-1), by rw [List.length_append]; exact bz_B.last (bs := [_, _]) hB (hW.1 (x, b_In E b) (List.mem_cons_of_mem _ (List.mem_cons_of_mem _ List.mem_cons_self))), hk, hsk, hit.app, Or.inl ⟨by rw [x_step_f c_6 (by unfold x_fac; rw [if_neg c_21, if_pos (show t_wd b t w_kind = true from tB_1 c_41)]), decide_eq_false c_6], rfl⟩⟩)
    · refine g_aload_n (q := 25) dX0_beginFactor_24 rfl rfl ?_
      refine g_aload_n (q := 26) dX0_beginFactor_25 rfl rfl ?_
      refine gb_getf (q := 29) (j := 0) (i := 0) dX0_beginFactor_26 rfl fl_X0_118 hB rfl rfl rfl rfl ?_
      refine g_eqi (v := nI (kN t)) (hk.1 c_21) ?_
      refine gb_callV (q := 32) (j := 1) (i := 0) dX0_beginFactor_29 rfl kv_X0_152 (c_sadd (n := u.length) (x := nI (kN t)) (by omega) (hB.1.at (j := 1) rfl)) rfl (by decide) hB rfl rfl rfl rfl (bz_le rfl) (by decide) (by decide) (fun r g1 hQ => ?_)
      obtain ⟨rfl, h1⟩ := hQ
      have hB := hB.sp (j := 1) rfl 0 rfl h1 (bz_le rfl)
      refine g_goto (q := 111) dX0_beginFactor_32 (by decide) ?_
      exact g_vret dX0_beginFactor_111 rfl (⟨rfl, S, u ++ [nI (kN t)], e, ep, pd, upd it u.length (nI (kN t)), by rw [List.length_append]; exact bz_B.last (bs := [_, _]) hB (hW.1 (x, b_In E b) (List.mem_cons_of_mem _ (List.mem_cons_of_mem _ List.mem_cons_self))), hk, hsk, hit.app, Or.inl ⟨by rw [x_step_f c_6 (by unfold x_fac; rw [if_pos c_21]), decide_eq_false c_6], rfl⟩⟩)
  · rcases Nat.lt_or_ge (x_open S) 5 with h5 | h5
    · refine g_aload_n (q := 10) dX0_beginFactor_9 rfl rfl ?_
      refine gb_callV (q := 13) (j := 0) (i := 0) dX0_beginFactor_10 rfl kv_X0_149 (c_openBracket0 (m := S.length) (k := x_open S) (by omega) h5 (hB.1.at (j := 0) rfl)) rfl (by decide) hB rfl rfl rfl rfl (bz_le rfl) (by decide) (by decide) (fun r g1 hQ => ?_)
      obtain ⟨rfl, h1⟩ := hQ
      have hB := hB.sp (j := 0) rfl 0 rfl h1 (bz_le rfl)
      refine g_goto (q := 111) dX0_beginFactor_13 (by decide) ?_
      exact g_vret dX0_beginFactor_111 rfl ⟨rfl, 40 :: S, u, e, ep, upd pd S.length (nI 40), it, by rw [x_open_c, if_pos rfl]; exact bz_B.last (bs := [_, _]) hB (hW.1 (x, b_In E b) (List.mem_cons_of_mem _ (List.mem_cons_of_mem _ List.mem_cons_self))), hk, hsk.push, hit, Or.inl ⟨by rw [x_step_40 c_6 h5, decide_eq_true c_6], rfl⟩⟩
    · refine g_aload_n (q := 10) dX0_beginFactor_9 rfl rfl ?_
      refine gb_callV (q := 13) (j := 0) (i := 0) dX0_beginFactor_10 rfl kv_X0_149 (c_openBracket1 (t := t) (e := e) (ep := ep) (k := x_open S) (by omega) hk (hB.1.at (j := 0) rfl)) rfl (by decide) hB rfl rfl rfl rfl (bz_le rfl) (by decide) (by decide) (fun r g1 hQ => ?_)
      obtain ⟨rfl, ep1, h1, hk1⟩ := hQ
      have hB := hB.sp (j := 0) rfl 0 rfl h1 (bz_le rfl)
      refine g_goto (q := 111) dX0_beginFactor_13 (by decide) ?_
      exact g_vret dX0_beginFactor_111 rfl ⟨rfl, S, u, k_fail e 4 t, ep1, pd, it, bz_B.last (bs := [_, _]) hB (hW.1 (x, b_In E b) (List.mem_cons_of_mem _ (List.mem_cons_of_mem _ List.mem_cons_self))), hk1, hsk, hit, Or.inr ⟨by rw [x_step_45 c_6 h5, k_fail_0 he], rfl, rfl⟩⟩
