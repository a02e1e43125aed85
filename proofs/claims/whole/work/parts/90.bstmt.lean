/-! class BridgeText: statement, describe -/
theorem x_run_e {b : Nat → Nat} {n : Nat} : ∀ {k : Nat} {σ : Xs} {z : Nat × Nat}, x_run b n k σ = some (.inr z) → z.1 ≠ 0
  | 0, σ, z, h => by simp [x_run] at h
  | k + 1, σ, z, h => by
    cases hs : x_step b n σ with
    | inl σ' => rw [x_run_l hs] at h; exact x_run_e h
    | inr q => rw [x_run_r hs] at h; cases h; exact x_err hs
set_option maxRecDepth 20000 in
set_option maxHeartbeats 1000000 in
theorem c_statement {l : Launch} {E : bz_E} {L : List Nat} {g : Nat → va_E} {o x n p : Nat} {b : Nat → Nat} {f0 pd : Nat → Int32} {t : Tok} {e : Nat × Nat} {nm ep pc op : Int32} {bs bt : Bool} {D : Pl} {zs cs ts ws v0 i0 v1 i1 : Nat → Int32} {n0 n1 sp tc : Int32} (hb : ∀ i, b i < 256) (hn : n ≤ 600) (hd : o + 3 ≤ x ∨ x + 1 ≤ o) (ht : t_is b n t) (he : e.1 = 0) (hk : k_ok t e nm ep) (hdr : d_rep (zs, cs, ts, ws, v0, i0, n0, v1, i1, n1, sp, tc) D) (hW : bz_W L g [(o, (b_T E o x n (kE t) (kK t) (kS t) nm (nI e.1) ep (tB bs) (tB bt) f0 pd pc op)), (p, b_PL E p (zs, cs, ts, ws, v0, i0, n0, v1, i1, n1, sp, tc)), (x, b_In E b)]) : bz_K l E mX0_statement 7 [.ref o, .ref p] L g (fun r g1 => r = none ∧ ∃ (k1 k2 : Bool) (t9 : Tok) (e9 : Nat × Nat) (nm9 ep9 : Int32) (pd9 : Nat → Int32) (pc9 op9 : Int32) (r9 : PLR), bz_B L g g1 [(o, (b_T E o x n (kE t9) (kK t9) (kS t9) nm9 (nI e9.1) ep9 (tB k1) (tB k2) f0 pd9 pc9 op9)), (p, b_PL E p r9)] ∧ k_ok t9 e9 nm9 ep9 ∧ t_is b n t9 ∧ k_st b n D bs bt t e r9 k1 k2 t9 e9) := by
  refine bz_K.of (by decide) (bz_le rfl) (fun sz => ?_)
  show bz_G _ _ _ _ _ _ _ _ _ _ _ _ 0 [(0, .ref o), (1, .ref p)] []
  have hB := bz_B.rf hW
  have hle := ht.le
  have hXx : bz_H L g x (b_In E b) := hW.1 (x, b_In E b) (List.mem_cons_of_mem _ (List.mem_cons_of_mem _ List.mem_cons_self))
  refine g_aload_n (q := 1) dX0_statement_0 rfl rfl ?_
  refine g_ldcS (q := 3) (tx := "buffer") (i := 0) dX0_statement_1 rfl (by decide +kernel) ?_
  refine gb_callV (q := 6) (j := 0) (i := 0) dX0_statement_3 rfl kv_X0_62 (c_isWord (i := 0) hb hn hd (hB.1.at (j := 2) rfl) (by decide) ht (hB.1.at (j := 0) rfl)) rfl (by decide) hB rfl rfl rfl rfl (bz_le rfl) (by decide) (by decide) (fun r g1 hQ => ?_)
  obtain ⟨rfl, hg⟩ := hQ
  have hg := hg.symm
  subst hg
  refine g_if_eq (q := 9) (t := 25) dX0_statement_6 rfl (by decide) (fun c_6 => ?_) (fun c_6 => ?_)
  · refine g_aload_n (q := 26) dX0_statement_25 rfl rfl ?_
    refine g_ldcS (q := 28) (tx := "credit") (i := 1) dX0_statement_26 rfl (by decide +kernel) ?_
    refine gb_callV (q := 31) (j := 0) (i := 0) dX0_statement_28 rfl kv_X0_62 (c_isWord (i := 1) hb hn hd (hB.1.at (j := 2) rfl) (by decide) ht (hB.1.at (j := 0) rfl)) rfl (by decide) hB rfl rfl rfl rfl (bz_le rfl) (by decide) (by decide) (fun r g1 hQ => ?_)
    obtain ⟨rfl, hg⟩ := hQ
    have hg := hg.symm
    subst hg
    refine g_if_eq (q := 34) (t := 50) dX0_statement_31 rfl (by decide) (fun c_31 => ?_) (fun c_31 => ?_)
    · refine g_aload_n (q := 51) dX0_statement_50 rfl rfl ?_
      refine g_ldcS (q := 53) (tx := "table") (i := 2) dX0_statement_51 rfl (by decide +kernel) ?_
      refine gb_callV (q := 56) (j := 0) (i := 0) dX0_statement_53 rfl kv_X0_62 (c_isWord (i := 2) hb hn hd (hB.1.at (j := 2) rfl) (by decide) ht (hB.1.at (j := 0) rfl)) rfl (by decide) hB rfl rfl rfl rfl (bz_le rfl) (by decide) (by decide) (fun r g1 hQ => ?_)
      obtain ⟨rfl, hg⟩ := hQ
      have hg := hg.symm
      subst hg
      refine g_if_eq (q := 59) (t := 74) dX0_statement_56 rfl (by decide) (fun c_56 => ?_) (fun c_56 => ?_)
      · refine g_aload_n (q := 75) dX0_statement_74 rfl rfl ?_
        refine g_ldcS (q := 77) (tx := "word") (i := 3) dX0_statement_75 rfl (by decide +kernel) ?_
        refine gb_callV (q := 80) (j := 0) (i := 0) dX0_statement_77 rfl kv_X0_62 (c_isWord (i := 3) hb hn hd (hB.1.at (j := 2) rfl) (by decide) ht (hB.1.at (j := 0) rfl)) rfl (by decide) hB rfl rfl rfl rfl (bz_le rfl) (by decide) (by decide) (fun r g1 hQ => ?_)
        obtain ⟨rfl, hg⟩ := hQ
        have hg := hg.symm
        subst hg
        refine g_if_eq (q := 83) (t := 101) dX0_statement_80 rfl (by decide) (fun c_80 => ?_) (fun c_80 => ?_)
        · refine g_aload_n (q := 102) dX0_statement_101 rfl rfl ?_
          refine g_ldcS (q := 104) (tx := "latency") (i := 4) dX0_statement_102 rfl (by decide +kernel) ?_
          refine gb_callV (q := 107) (j := 0) (i := 0) dX0_statement_104 rfl kv_X0_62 (c_isWord (i := 4) hb hn hd (hB.1.at (j := 2) rfl) (by decide) ht (hB.1.at (j := 0) rfl)) rfl (by decide) hB rfl rfl rfl rfl (bz_le rfl) (by decide) (by decide) (fun r g1 hQ => ?_)
          obtain ⟨rfl, hg⟩ := hQ
          have hg := hg.symm
          subst hg
          refine g_if_eq (q := 110) (t := 131) dX0_statement_107 rfl (by decide) (fun c_107 => ?_) (fun c_107 => ?_)
          · refine g_aload_n (q := 132) dX0_statement_131 rfl rfl ?_
            refine g_ldcS (q := 134) (tx := "split") (i := 5) dX0_statement_132 rfl (by decide +kernel) ?_
            refine gb_callV (q := 137) (j := 0) (i := 0) dX0_statement_134 rfl kv_X0_62 (c_isWord (i := 5) hb hn hd (hB.1.at (j := 2) rfl) (by decide) ht (hB.1.at (j := 0) rfl)) rfl (by decide) hB rfl rfl rfl rfl (bz_le rfl) (by decide) (by decide) (fun r g1 hQ => ?_)
            obtain ⟨rfl, hg⟩ := hQ
            have hg := hg.symm
            subst hg
            refine g_if_eq (q := 140) (t := 166) dX0_statement_137 rfl (by decide) (fun c_137 => ?_) (fun c_137 => ?_)
            · refine g_aload_n (q := 167) dX0_statement_166 rfl rfl ?_
              refine g_ldcS (q := 169) (tx := "tags") (i := 6) dX0_statement_167 rfl (by decide +kernel) ?_
              refine gb_callV (q := 172) (j := 0) (i := 0) dX0_statement_169 rfl kv_X0_62 (c_isWord (i := 6) hb hn hd (hB.1.at (j := 2) rfl) (by decide) ht (hB.1.at (j := 0) rfl)) rfl (by decide) hB rfl rfl rfl rfl (bz_le rfl) (by decide) (by decide) (fun r g1 hQ => ?_)
              obtain ⟨rfl, hg⟩ := hQ
              have hg := hg.symm
              subst hg
              refine g_if_eq (q := 175) (t := 202) dX0_statement_172 rfl (by decide) (fun c_172 => ?_) (fun c_172 => ?_)
              · refine g_aload_n (q := 203) dX0_statement_202 rfl rfl ?_
                refine g_iconst (q := 204) (v := (nI 1)) dX0_statement_203 rfl (by decide) ?_
                refine gb_callV (q := 207) (j := 0) (i := 0) dX0_statement_204 rfl kv_X0_114 (c_fail (t := t) (e := e) (ep := ep) (c := 1) (by decide) hk (hB.1.at (j := 0) rfl)) rfl (by decide) hB rfl rfl rfl rfl (bz_le rfl) (by decide) (by decide) (fun r g1 hQ => ?_)
                obtain ⟨rfl, ep1, h1, hk1⟩ := hQ
                have hB := hB.sp (j := 0) rfl 0 rfl h1 (bz_le rfl)
                exact g_vret dX0_statement_207 rfl (⟨rfl, bs, bt, t, k_fail e 1 t, nm, ep1, pd, pc, op, (zs, cs, ts, ws, v0, i0, n0, v1, i1, n1, sp, tc), bz_B.last (bs := [_, _]) hB hXx, hk1, ht, Or.inr ⟨by rw [k_fail_0 he]; exact p_st_n (tB_0 c_6) (tB_0 c_31) (tB_0 c_56) (tB_0 c_80) (tB_0 c_137) (tB_0 c_172) (tB_0 c_107), by rw [k_fail_0 he]; exact Nat.succ_ne_zero _⟩⟩)
              · cases bt with
                | true =>
                  refine g_aload_n (q := 176) dX0_statement_175 rfl rfl ?_
                  refine g_aload_n (q := 177) dX0_statement_176 rfl rfl ?_
                  refine gb_getf (q := 180) (j := 0) (i := 0) dX0_statement_177 rfl fl_X0_36 hB rfl rfl rfl rfl ?_
                  refine gb_callV (q := 183) (j := 0) (i := 0) dX0_statement_180 rfl kv_X0_103 (c_once1 (t := t) (e := e) (ep := ep) hb hn hd (hB.1.at (j := 2) rfl) ht hk (hB.1.at (j := 0) rfl)) rfl (by decide) hB rfl rfl rfl rfl (bz_le rfl) (by decide) (by decide) (fun r g1 hQ => ?_)
                  obtain ⟨rfl, nm1, ep1, h1, hk1⟩ := hQ
                  have hB := hB.sp (j := 0) rfl 0 rfl h1 (bz_le rfl)
                  have ht1 : t_is b n (t_nx b n t) := (t_nx_is ht).1
                  have hk1 : k_ok (t_nx b n t) (k_fail e 2 t) nm1 ep1 := hk1
                  refine g_aload_n (q := 184) dX0_statement_183 rfl rfl ?_
                  refine g_iconst (q := 185) (v := (nI 1)) dX0_statement_184 rfl (by decide) ?_
                  refine gb_putf (q := 188) (j := 0) (i := 0) dX0_statement_185 rfl fp_X0_36 hB rfl rfl rfl (bz_le rfl) rfl rfl (fun g hB => ?_)
                  refine g_aload_n (q := 189) dX0_statement_188 rfl rfl ?_
                  refine g_aload_n (q := 190) dX0_statement_189 rfl rfl ?_
                  refine g_iconst (q := 191) (v := (nI 1)) dX0_statement_190 rfl (by decide) ?_
                  refine g_bipush (q := 193) (v := (nI 8)) dX0_statement_191 rfl (by decide) ?_
                  refine gb_callV (q := 196) (j := 0) (i := 0) dX0_statement_193 rfl kv_X0_89 (c_numberIn (t := (t_nx b n t)) (e := (k_fail e 2 t)) (nm := nm1) (ep := ep1) (lo := 1) (hi := 8) hb hn hd (hB.1.at (j := 2) rfl) ht1 (by decide) (by decide) hk1 (hB.1.at (j := 0) rfl)) rfl (by decide) hB rfl rfl rfl rfl (bz_le rfl) (by decide) (by decide) (fun r g1 hQ => ?_)
                  obtain ⟨v, t4, e4, nm4, ep4, rfl, h1, hs4, hk4⟩ := hQ
                  have hB := hB.sp (j := 0) rfl 0 rfl h1 (bz_le rfl)
                  have hb4 := k_num_b (b := b) (n := n) (lo := 1) (hi := 8) (t := (t_nx b n t)) (e := (k_fail e 2 t)) (by decide) ht1 hk1.2.2
                  rw [hs4] at hb4
                  have ht4 : t_is b n t4 := hb4.2.2.1
                  refine gb_putf (q := 199) (j := 1) (i := 0) dX0_statement_196 rfl fp_X0_111 hB rfl rfl rfl (bz_le rfl) rfl rfl (fun g hB => ?_)
                  refine g_goto (q := 207) dX0_statement_199 (by decide) ?_
                  exact g_vret dX0_statement_207 rfl (by
                  have h2 : e4 = (2, kS t) := by
                    have h3 := k_num_e (b := b) (n := n) (lo := 1) (hi := 8) (t := t_nx b n t) (e := k_fail e 2 t) (by rw [k_fail_0 he]; exact Nat.succ_ne_zero _)
                    rw [hs4] at h3
                    exact (show e4 = k_fail e 2 t from h3).trans (k_fail_0 he)
                  exact ⟨rfl, bs, true, t4, e4, nm4, ep4, pd, pc, op, (zs, cs, ts, ws, v0, i0, n0, v1, i1, n1, sp, nI v), bz_B.last (bs := [_, _]) hB hXx, hk4, ht4, Or.inr ⟨by rw [p_st_g (tB_0 c_6) (tB_0 c_31) (tB_0 c_56) (tB_0 c_80) (tB_0 c_137) (tB_1 c_172), if_pos rfl, h2], by rw [h2]; exact Nat.succ_ne_zero _⟩⟩)
                | false =>
                  refine g_aload_n (q := 176) dX0_statement_175 rfl rfl ?_
                  refine g_aload_n (q := 177) dX0_statement_176 rfl rfl ?_
                  refine gb_getf (q := 180) (j := 0) (i := 0) dX0_statement_177 rfl fl_X0_36 hB rfl rfl rfl rfl ?_
                  refine gb_callV (q := 183) (j := 0) (i := 0) dX0_statement_180 rfl kv_X0_103 (c_once0 (t := t) (e := e) (ep := ep) hb hn hd (hB.1.at (j := 2) rfl) ht hk (hB.1.at (j := 0) rfl)) rfl (by decide) hB rfl rfl rfl rfl (bz_le rfl) (by decide) (by decide) (fun r g1 hQ => ?_)
                  obtain ⟨rfl, nm1, ep1, h1, hk1⟩ := hQ
                  have hB := hB.sp (j := 0) rfl 0 rfl h1 (bz_le rfl)
                  have ht1 : t_is b n (t_nx b n t) := (t_nx_is ht).1
                  have hk1 : k_ok (t_nx b n t) e nm1 ep1 := hk1
                  refine g_aload_n (q := 184) dX0_statement_183 rfl rfl ?_
                  refine g_iconst (q := 185) (v := (nI 1)) dX0_statement_184 rfl (by decide) ?_
                  refine gb_putf (q := 188) (j := 0) (i := 0) dX0_statement_185 rfl fp_X0_36 hB rfl rfl rfl (bz_le rfl) rfl rfl (fun g hB => ?_)
                  refine g_aload_n (q := 189) dX0_statement_188 rfl rfl ?_
                  refine g_aload_n (q := 190) dX0_statement_189 rfl rfl ?_
                  refine g_iconst (q := 191) (v := (nI 1)) dX0_statement_190 rfl (by decide) ?_
                  refine g_bipush (q := 193) (v := (nI 8)) dX0_statement_191 rfl (by decide) ?_
                  refine gb_callV (q := 196) (j := 0) (i := 0) dX0_statement_193 rfl kv_X0_89 (c_numberIn (t := (t_nx b n t)) (e := e) (nm := nm1) (ep := ep1) (lo := 1) (hi := 8) hb hn hd (hB.1.at (j := 2) rfl) ht1 (by decide) (by decide) hk1 (hB.1.at (j := 0) rfl)) rfl (by decide) hB rfl rfl rfl rfl (bz_le rfl) (by decide) (by decide) (fun r g1 hQ => ?_)
                  obtain ⟨v, t4, e4, nm4, ep4, rfl, h1, hs4, hk4⟩ := hQ
                  have hB := hB.sp (j := 0) rfl 0 rfl h1 (bz_le rfl)
                  have hb4 := k_num_b (b := b) (n := n) (lo := 1) (hi := 8) (t := (t_nx b n t)) (e := e) (by decide) ht1 hk1.2.2
                  rw [hs4] at hb4
                  have ht4 : t_is b n t4 := hb4.2.2.1
                  refine gb_putf (q := 199) (j := 1) (i := 0) dX0_statement_196 rfl fp_X0_111 hB rfl rfl rfl (bz_le rfl) rfl rfl (fun g hB => ?_)
                  refine g_goto (q := 207) dX0_statement_199 (by decide) ?_
                  exact g_vret dX0_statement_207 rfl (by
                  rcases k_num_c he hs4 ((p_st_g (D := D) (h1 := bs) (h2 := false) (tB_0 c_6) (tB_0 c_31) (tB_0 c_56) (tB_0 c_80) (tB_0 c_137) (tB_1 c_172)).trans (if_neg (by decide))) with ⟨a1, a2⟩ | ⟨a1, a2⟩
                  · exact ⟨rfl, bs, true, t4, e4, nm4, ep4, pd, pc, op, (zs, cs, ts, ws, v0, i0, n0, v1, i1, n1, sp, nI v), bz_B.last (bs := [_, _]) hB hXx, hk4, ht4, Or.inl ⟨_, a1, a2, hdr.1, hdr.2.1, hdr.2.2.1, hdr.2.2.2.1, hdr.2.2.2.2.1, rfl, hdr.2.2.2.2.2.2⟩⟩
                  · exact ⟨rfl, bs, true, t4, e4, nm4, ep4, pd, pc, op, (zs, cs, ts, ws, v0, i0, n0, v1, i1, n1, sp, nI v), bz_B.last (bs := [_, _]) hB hXx, hk4, ht4, Or.inr ⟨a1, a2⟩⟩)
            · cases bs with
              | true =>
                refine g_aload_n (q := 141) dX0_statement_140 rfl rfl ?_
                refine g_aload_n (q := 142) dX0_statement_141 rfl rfl ?_
                refine gb_getf (q := 145) (j := 0) (i := 0) dX0_statement_142 rfl fl_X0_32 hB rfl rfl rfl rfl ?_
                refine gb_callV (q := 148) (j := 0) (i := 0) dX0_statement_145 rfl kv_X0_103 (c_once1 (t := t) (e := e) (ep := ep) hb hn hd (hB.1.at (j := 2) rfl) ht hk (hB.1.at (j := 0) rfl)) rfl (by decide) hB rfl rfl rfl rfl (bz_le rfl) (by decide) (by decide) (fun r g1 hQ => ?_)
                obtain ⟨rfl, nm1, ep1, h1, hk1⟩ := hQ
                have hB := hB.sp (j := 0) rfl 0 rfl h1 (bz_le rfl)
                have ht1 : t_is b n (t_nx b n t) := (t_nx_is ht).1
                have hk1 : k_ok (t_nx b n t) (k_fail e 2 t) nm1 ep1 := hk1
                refine g_aload_n (q := 149) dX0_statement_148 rfl rfl ?_
                refine g_iconst (q := 150) (v := (nI 1)) dX0_statement_149 rfl (by decide) ?_
                refine gb_putf (q := 153) (j := 0) (i := 0) dX0_statement_150 rfl fp_X0_32 hB rfl rfl rfl (bz_le rfl) rfl rfl (fun g hB => ?_)
                refine g_aload_n (q := 154) dX0_statement_153 rfl rfl ?_
                refine g_aload_n (q := 155) dX0_statement_154 rfl rfl ?_
                refine g_iconst (q := 156) (v := (nI 1)) dX0_statement_155 rfl (by decide) ?_
                refine g_iconst (q := 157) (v := (nI 4)) dX0_statement_156 rfl (by decide) ?_
                refine gb_callV (q := 160) (j := 0) (i := 0) dX0_statement_157 rfl kv_X0_89 (c_numberIn (t := (t_nx b n t)) (e := (k_fail e 2 t)) (nm := nm1) (ep := ep1) (lo := 1) (hi := 4) hb hn hd (hB.1.at (j := 2) rfl) ht1 (by decide) (by decide) hk1 (hB.1.at (j := 0) rfl)) rfl (by decide) hB rfl rfl rfl rfl (bz_le rfl) (by decide) (by decide) (fun r g1 hQ => ?_)
                obtain ⟨v, t4, e4, nm4, ep4, rfl, h1, hs4, hk4⟩ := hQ
                have hB := hB.sp (j := 0) rfl 0 rfl h1 (bz_le rfl)
                have hb4 := k_num_b (b := b) (n := n) (lo := 1) (hi := 4) (t := (t_nx b n t)) (e := (k_fail e 2 t)) (by decide) ht1 hk1.2.2
                rw [hs4] at hb4
                have ht4 : t_is b n t4 := hb4.2.2.1
                refine gb_putf (q := 163) (j := 1) (i := 0) dX0_statement_160 rfl fp_X0_107 hB rfl rfl rfl (bz_le rfl) rfl rfl (fun g hB => ?_)
                refine g_goto (q := 207) dX0_statement_163 (by decide) ?_
                exact g_vret dX0_statement_207 rfl (by
                have h2 : e4 = (2, kS t) := by
                  have h3 := k_num_e (b := b) (n := n) (lo := 1) (hi := 4) (t := t_nx b n t) (e := k_fail e 2 t) (by rw [k_fail_0 he]; exact Nat.succ_ne_zero _)
                  rw [hs4] at h3
                  exact (show e4 = k_fail e 2 t from h3).trans (k_fail_0 he)
                exact ⟨rfl, true, bt, t4, e4, nm4, ep4, pd, pc, op, (zs, cs, ts, ws, v0, i0, n0, v1, i1, n1, nI v, tc), bz_B.last (bs := [_, _]) hB hXx, hk4, ht4, Or.inr ⟨by rw [p_st_s (tB_0 c_6) (tB_0 c_31) (tB_0 c_56) (tB_0 c_80) (tB_1 c_137), if_pos rfl, h2], by rw [h2]; exact Nat.succ_ne_zero _⟩⟩)
              | false =>
                refine g_aload_n (q := 141) dX0_statement_140 rfl rfl ?_
                refine g_aload_n (q := 142) dX0_statement_141 rfl rfl ?_
                refine gb_getf (q := 145) (j := 0) (i := 0) dX0_statement_142 rfl fl_X0_32 hB rfl rfl rfl rfl ?_
                refine gb_callV (q := 148) (j := 0) (i := 0) dX0_statement_145 rfl kv_X0_103 (c_once0 (t := t) (e := e) (ep := ep) hb hn hd (hB.1.at (j := 2) rfl) ht hk (hB.1.at (j := 0) rfl)) rfl (by decide) hB rfl rfl rfl rfl (bz_le rfl) (by decide) (by decide) (fun r g1 hQ => ?_)
                obtain ⟨rfl, nm1, ep1, h1, hk1⟩ := hQ
                have hB := hB.sp (j := 0) rfl 0 rfl h1 (bz_le rfl)
                have ht1 : t_is b n (t_nx b n t) := (t_nx_is ht).1
                have hk1 : k_ok (t_nx b n t) e nm1 ep1 := hk1
                refine g_aload_n (q := 149) dX0_statement_148 rfl rfl ?_
                refine g_iconst (q := 150) (v := (nI 1)) dX0_statement_149 rfl (by decide) ?_
                refine gb_putf (q := 153) (j := 0) (i := 0) dX0_statement_150 rfl fp_X0_32 hB rfl rfl rfl (bz_le rfl) rfl rfl (fun g hB => ?_)
                refine g_aload_n (q := 154) dX0_statement_153 rfl rfl ?_
                refine g_aload_n (q := 155) dX0_statement_154 rfl rfl ?_
                refine g_iconst (q := 156) (v := (nI 1)) dX0_statement_155 rfl (by decide) ?_
                refine g_iconst (q := 157) (v := (nI 4)) dX0_statement_156 rfl (by decide) ?_
                refine gb_callV (q := 160) (j := 0) (i := 0) dX0_statement_157 rfl kv_X0_89 (c_numberIn (t := (t_nx b n t)) (e := e) (nm := nm1) (ep := ep1) (lo := 1) (hi := 4) hb hn hd (hB.1.at (j := 2) rfl) ht1 (by decide) (by decide) hk1 (hB.1.at (j := 0) rfl)) rfl (by decide) hB rfl rfl rfl rfl (bz_le rfl) (by decide) (by decide) (fun r g1 hQ => ?_)
                obtain ⟨v, t4, e4, nm4, ep4, rfl, h1, hs4, hk4⟩ := hQ
                have hB := hB.sp (j := 0) rfl 0 rfl h1 (bz_le rfl)
                have hb4 := k_num_b (b := b) (n := n) (lo := 1) (hi := 4) (t := (t_nx b n t)) (e := e) (by decide) ht1 hk1.2.2
                rw [hs4] at hb4
                have ht4 : t_is b n t4 := hb4.2.2.1
                refine gb_putf (q := 163) (j := 1) (i := 0) dX0_statement_160 rfl fp_X0_107 hB rfl rfl rfl (bz_le rfl) rfl rfl (fun g hB => ?_)
                refine g_goto (q := 207) dX0_statement_163 (by decide) ?_
                exact g_vret dX0_statement_207 rfl (by
                rcases k_num_c he hs4 ((p_st_s (D := D) (h1 := false) (h2 := bt) (tB_0 c_6) (tB_0 c_31) (tB_0 c_56) (tB_0 c_80) (tB_1 c_137)).trans (if_neg (by decide))) with ⟨a1, a2⟩ | ⟨a1, a2⟩
                · exact ⟨rfl, true, bt, t4, e4, nm4, ep4, pd, pc, op, (zs, cs, ts, ws, v0, i0, n0, v1, i1, n1, nI v, tc), bz_B.last (bs := [_, _]) hB hXx, hk4, ht4, Or.inl ⟨_, a1, a2, hdr.1, hdr.2.1, hdr.2.2.1, hdr.2.2.2.1, rfl, hdr.2.2.2.2.2⟩⟩
                · exact ⟨rfl, true, bt, t4, e4, nm4, ep4, pd, pc, op, (zs, cs, ts, ws, v0, i0, n0, v1, i1, n1, nI v, tc), bz_B.last (bs := [_, _]) hB hXx, hk4, ht4, Or.inr ⟨a1, a2⟩⟩)
          · refine g_aload_n (q := 111) dX0_statement_110 rfl rfl ?_
            refine gb_callV (q := 114) (j := 0) (i := 0) dX0_statement_111 rfl kv_X0_44 (c_step (p := kE t) hb hn hd (hB.1.at (j := 2) rfl) (by omega) (hB.1.at (j := 0) rfl)) rfl (by decide) hB rfl rfl rfl rfl (bz_le rfl) (by decide) (by decide) (fun r g1 hQ => ?_)
            obtain ⟨rfl, t1, nm1, h1, ht1, hk1⟩ := hQ
            have hB := hB.sp (j := 0) rfl 0 rfl h1 (bz_le rfl)
            have hk1 : k_ok t1 e nm1 ep := ⟨hk1, hk.2⟩
            have htn : t1 = t_nx b n t := ht1
            subst htn
            have ht1 : t_is b n (t_nx b n t) := (t_nx_is ht).1
            refine g_aload_n (q := 115) dX0_statement_114 rfl rfl ?_
            refine g_aload_n (q := 116) dX0_statement_115 rfl rfl ?_
            refine g_aload_n (q := 117) dX0_statement_116 rfl rfl ?_
            refine g_iconst (q := 118) (v := (nI 0)) dX0_statement_117 rfl (by decide) ?_
            refine g_iconst (q := 119) (v := (nI 1)) dX0_statement_118 rfl (by decide) ?_
            refine gb_callV (q := 122) (j := 0) (i := 0) dX0_statement_119 rfl kv_X0_89 (c_numberIn (t := (t_nx b n t)) (e := e) (nm := nm1) (ep := ep) (lo := 0) (hi := 1) hb hn hd (hB.1.at (j := 2) rfl) ht1 (by decide) (by decide) hk1 (hB.1.at (j := 0) rfl)) rfl (by decide) hB rfl rfl rfl rfl (bz_le rfl) (by decide) (by decide) (fun r g1 hQ => ?_)
            obtain ⟨v, t4, e4, nm4, ep4, rfl, h1, hs4, hk4⟩ := hQ
            have hB := hB.sp (j := 0) rfl 0 rfl h1 (bz_le rfl)
            have hb4 := k_num_b (b := b) (n := n) (lo := 0) (hi := 1) (t := (t_nx b n t)) (e := e) (by decide) ht1 hk1.2.2
            rw [hs4] at hb4
            have ht4 : t_is b n t4 := hb4.2.2.1
            have hpl := p_st_l (n := n) (D := D) (h1 := bs) (h2 := bt) (tB_0 c_6) (tB_0 c_31) (tB_0 c_56) (tB_0 c_80) (t_wd_ne (tB_1 c_107) (by decide)) (t_wd_ne (tB_1 c_107) (by decide)) (tB_1 c_107)
            cases hp : p_num b n 0 1 (t_nx b n t) with
            | inr z =>
              have hez : e4 = z := by
                have := k_num_r he hp
                rw [hs4] at this
                exact this
              have hne : e4.1 ≠ 0 := by rw [hez]; have := (p_num_r hp).1; omega
              rcases (show v = 0 ∨ v = 1 by omega) with hv | hv
              · subst hv
                refine gb_callV (q := 125) (j := 1) (i := 0) dX0_statement_122 rfl kv_X0_93 (c_latencyOf0 (hB.1.at (j := 1) rfl)) rfl (by decide) hB rfl rfl rfl rfl (bz_le rfl) (by decide) (by decide) (fun r g1 hQ => ?_)
                obtain ⟨rfl, hg⟩ := hQ
                have hg := hg.symm
                subst hg
                refine gb_callV (q := 128) (j := 0) (i := 0) dX0_statement_125 rfl kv_X0_97 (c_sum1 (t := t4) (e := e4) hb hn hd ht4 hne hk4 (bz_Wsub hB.1 5 rfl (bz_le rfl))) rfl (by decide) hB rfl rfl rfl rfl (bz_le rfl) (by decide) (by decide) (fun r g1 hQ => ?_)
                obtain ⟨rfl, ep5, it5, z5, pc5, op5, h1, hk5⟩ := hQ
                have hB := bz_B.two3s hB 5 h1 rfl (bz_le rfl)
                refine g_goto (q := 207) dX0_statement_128 (by decide) ?_
                exact g_vret dX0_statement_207 rfl (⟨rfl, bs, bt, t4, e4, nm4, ep5, pd, pc5, op5, (zs, cs, ts, ws, v0, it5, z5, v1, i1, n1, sp, tc), bz_B.last (bs := [_, _]) hB hXx, hk5, ht4, Or.inr ⟨by rw [hpl, hp, hez], hne⟩⟩)
              · subst hv
                refine gb_callV (q := 125) (j := 1) (i := 0) dX0_statement_122 rfl kv_X0_93 (c_latencyOf1 (hB.1.at (j := 1) rfl)) rfl (by decide) hB rfl rfl rfl rfl (bz_le rfl) (by decide) (by decide) (fun r g1 hQ => ?_)
                obtain ⟨rfl, hg⟩ := hQ
                have hg := hg.symm
                subst hg
                refine gb_callV (q := 128) (j := 0) (i := 0) dX0_statement_125 rfl kv_X0_97 (c_sum1 (t := t4) (e := e4) hb hn hd ht4 hne hk4 (bz_Wsub hB.1 8 rfl (bz_le rfl))) rfl (by decide) hB rfl rfl rfl rfl (bz_le rfl) (by decide) (by decide) (fun r g1 hQ => ?_)
                obtain ⟨rfl, ep5, it5, z5, pc5, op5, h1, hk5⟩ := hQ
                have hB := bz_B.two3s hB 8 h1 rfl (bz_le rfl)
                refine g_goto (q := 207) dX0_statement_128 (by decide) ?_
                exact g_vret dX0_statement_207 rfl (⟨rfl, bs, bt, t4, e4, nm4, ep5, pd, pc5, op5, (zs, cs, ts, ws, v0, i0, n0, v1, it5, z5, sp, tc), bz_B.last (bs := [_, _]) hB hXx, hk5, ht4, Or.inr ⟨by rw [hpl, hp, hez], hne⟩⟩)
            | inl q =>
              rw [k_num_l hp] at hs4
              have hv4 : q.1 = v := congrArg (fun x => x.1) hs4
              have ht4' : q.2 = t4 := congrArg (fun x => x.2.1) hs4
              have hee : e4 = e := (congrArg (fun x => x.2.2) hs4).symm
              subst ht4'
              subst hv4
              rcases (show q.1 = 0 ∨ q.1 = 1 by omega) with hv | hv
              · rw [hv]
                refine gb_callV (q := 125) (j := 1) (i := 0) dX0_statement_122 rfl kv_X0_93 (c_latencyOf0 (hB.1.at (j := 1) rfl)) rfl (by decide) hB rfl rfl rfl rfl (bz_le rfl) (by decide) (by decide) (fun r g1 hQ => ?_)
                obtain ⟨rfl, hg⟩ := hQ
                have hg := hg.symm
                subst hg
                refine gb_callV (q := 128) (j := 0) (i := 0) dX0_statement_125 rfl kv_X0_97 (c_sum0 (t := q.2) (e := e4) hb hn hd ht4 (by rw [hee]; exact he) hk4 (bz_Wsub hB.1 5 rfl (bz_le rfl))) rfl (by decide) hB rfl rfl rfl rfl (bz_le rfl) (by decide) (by decide) (fun r g1 hQ => ?_)
                obtain ⟨rfl, t5, e5, nm5, ep5, pd5, pc5, op5, it5, z5, h1, hk5, ht5, hor⟩ := hQ
                have hB := bz_B.two3s hB 5 h1 rfl (bz_le rfl)
                refine g_goto (q := 207) dX0_statement_128 (by decide) ?_
                exact g_vret dX0_statement_207 rfl (by
                rcases hor with ⟨l0, q1, q2, q3, q4⟩ | q1
                · refine ⟨rfl, bs, bt, t5, e5, nm5, ep5, pd5, pc5, op5, (zs, cs, ts, ws, v0, it5, z5, v1, i1, n1, sp, tc), bz_B.last (bs := [_, _]) hB hXx, hk5, ht5, Or.inl ⟨(D.1, D.2.1, D.2.2.1, D.2.2.2.1, D.2.2.2.2.1, D.2.2.2.2.2.1, l0, D.2.2.2.2.2.2.2), ?_, q2.trans hee, hdr.1, hdr.2.1, hdr.2.2.1, hdr.2.2.2.1, hdr.2.2.2.2.1, hdr.2.2.2.2.2.1, ⟨q3, q4⟩, hdr.2.2.2.2.2.2.2⟩⟩
                  rw [hpl, hp]
                  dsimp only
                  rw [q1]
                  dsimp only
                  rw [if_pos hv]
                · refine ⟨rfl, bs, bt, t5, e5, nm5, ep5, pd5, pc5, op5, (zs, cs, ts, ws, v0, it5, z5, v1, i1, n1, sp, tc), bz_B.last (bs := [_, _]) hB hXx, hk5, ht5, Or.inr ⟨?_, x_run_e q1⟩⟩
                  rw [hpl, hp]
                  dsimp only
                  rw [q1])
              · rw [hv]
                refine gb_callV (q := 125) (j := 1) (i := 0) dX0_statement_122 rfl kv_X0_93 (c_latencyOf1 (hB.1.at (j := 1) rfl)) rfl (by decide) hB rfl rfl rfl rfl (bz_le rfl) (by decide) (by decide) (fun r g1 hQ => ?_)
                obtain ⟨rfl, hg⟩ := hQ
                have hg := hg.symm
                subst hg
                refine gb_callV (q := 128) (j := 0) (i := 0) dX0_statement_125 rfl kv_X0_97 (c_sum0 (t := q.2) (e := e4) hb hn hd ht4 (by rw [hee]; exact he) hk4 (bz_Wsub hB.1 8 rfl (bz_le rfl))) rfl (by decide) hB rfl rfl rfl rfl (bz_le rfl) (by decide) (by decide) (fun r g1 hQ => ?_)
                obtain ⟨rfl, t5, e5, nm5, ep5, pd5, pc5, op5, it5, z5, h1, hk5, ht5, hor⟩ := hQ
                have hB := bz_B.two3s hB 8 h1 rfl (bz_le rfl)
                refine g_goto (q := 207) dX0_statement_128 (by decide) ?_
                exact g_vret dX0_statement_207 rfl (by
                rcases hor with ⟨l0, q1, q2, q3, q4⟩ | q1
                · refine ⟨rfl, bs, bt, t5, e5, nm5, ep5, pd5, pc5, op5, (zs, cs, ts, ws, v0, i0, n0, v1, it5, z5, sp, tc), bz_B.last (bs := [_, _]) hB hXx, hk5, ht5, Or.inl ⟨(D.1, D.2.1, D.2.2.1, D.2.2.2.1, D.2.2.2.2.1, D.2.2.2.2.2.1, D.2.2.2.2.2.2.1, l0), ?_, q2.trans hee, hdr.1, hdr.2.1, hdr.2.2.1, hdr.2.2.2.1, hdr.2.2.2.2.1, hdr.2.2.2.2.2.1, hdr.2.2.2.2.2.2.1, ⟨q3, q4⟩⟩⟩
                  rw [hpl, hp]
                  dsimp only
                  rw [q1]
                  dsimp only
                  rw [if_neg (by omega)]
                · refine ⟨rfl, bs, bt, t5, e5, nm5, ep5, pd5, pc5, op5, (zs, cs, ts, ws, v0, i0, n0, v1, it5, z5, sp, tc), bz_B.last (bs := [_, _]) hB hXx, hk5, ht5, Or.inr ⟨?_, x_run_e q1⟩⟩
                  rw [hpl, hp]
                  dsimp only
                  rw [q1])
        · refine g_aload_n (q := 84) dX0_statement_83 rfl rfl ?_
          refine g_aload_n (q := 85) dX0_statement_84 rfl rfl ?_
          refine gb_getf (q := 88) (j := 1) (i := 0) dX0_statement_85 rfl fl_X0_84 hB rfl rfl rfl rfl ?_
          refine g_iconst (q := 89) (v := (nI 2)) dX0_statement_88 rfl (by decide) ?_
          refine g_bipush (q := 91) (v := (nI 16)) dX0_statement_89 rfl (by decide) ?_
          refine g_iconst (q := 92) (v := (nI 0)) dX0_statement_91 rfl (by decide) ?_
          refine g_sipush (q := 95) (v := (nI 9999)) dX0_statement_92 rfl (by decide) ?_
          refine gb_callV (q := 98) (j := 0) (i := 0) dX0_statement_95 rfl kv_X0_69 (c_setting (t := t) (e := e) (y := p + 4) (N := 32) (c1 := 2) (c2 := 16) (lo := 0) (hi := 9999) hb hn hd ht (by decide) (by decide) (by decide) (by decide) (by decide) (by decide) hk (bz_Wsub hB.1 4 rfl (bz_le rfl))) rfl (by decide) hB rfl rfl rfl rfl (bz_le rfl) (by decide) (by decide) (fun r g1 hQ => ?_)
          obtain ⟨rfl, j, v, t4, e4, nm4, ep4, h1, hk4, ht4, hs4⟩ := hQ
          have hB := bz_B.two3s hB 4 h1 rfl (bz_le rfl)
          refine g_goto (q := 207) dX0_statement_98 (by decide) ?_
          exact g_vret dX0_statement_207 rfl (by
            rcases k_set_c he hs4 (p_st_w (D := D) (h1 := bs) (h2 := bt) (tB_0 c_6) (tB_0 c_31) (tB_0 c_56) (tB_1 c_80)) with ⟨a1, a2⟩ | ⟨a1, a2⟩
            · exact ⟨rfl, bs, bt, t4, e4, nm4, ep4, pd, pc, op, (zs, cs, ts, upd ws j (nI v), v0, i0, n0, v1, i1, n1, sp, tc), bz_B.last (bs := [_, _]) hB hXx, hk4, ht4, Or.inl ⟨_, a1, a2, hdr.1, hdr.2.1, hdr.2.2.1, fun q hq => upd_nI (hdr.2.2.2.1 q hq), hdr.2.2.2.2⟩⟩
            · exact ⟨rfl, bs, bt, t4, e4, nm4, ep4, pd, pc, op, (zs, cs, ts, upd ws j (nI v), v0, i0, n0, v1, i1, n1, sp, tc), bz_B.last (bs := [_, _]) hB hXx, hk4, ht4, Or.inr ⟨a1, a2⟩⟩)
      · refine g_aload_n (q := 60) dX0_statement_59 rfl rfl ?_
        refine g_aload_n (q := 61) dX0_statement_60 rfl rfl ?_
        refine gb_getf (q := 64) (j := 1) (i := 0) dX0_statement_61 rfl fl_X0_80 hB rfl rfl rfl rfl ?_
        refine g_iconst (q := 65) (v := (nI 4)) dX0_statement_64 rfl (by decide) ?_
        refine g_iconst (q := 66) (v := (nI 4)) dX0_statement_65 rfl (by decide) ?_
        refine g_iconst (q := 67) (v := (nI 0)) dX0_statement_66 rfl (by decide) ?_
        refine g_iconst (q := 68) (v := (nI 1)) dX0_statement_67 rfl (by decide) ?_
        refine gb_callV (q := 71) (j := 0) (i := 0) dX0_statement_68 rfl kv_X0_69 (c_setting (t := t) (e := e) (y := p + 3) (N := 16) (c1 := 4) (c2 := 4) (lo := 0) (hi := 1) hb hn hd ht (by decide) (by decide) (by decide) (by decide) (by decide) (by decide) hk (bz_Wsub hB.1 3 rfl (bz_le rfl))) rfl (by decide) hB rfl rfl rfl rfl (bz_le rfl) (by decide) (by decide) (fun r g1 hQ => ?_)
        obtain ⟨rfl, j, v, t4, e4, nm4, ep4, h1, hk4, ht4, hs4⟩ := hQ
        have hB := bz_B.two3s hB 3 h1 rfl (bz_le rfl)
        refine g_goto (q := 207) dX0_statement_71 (by decide) ?_
        exact g_vret dX0_statement_207 rfl (by
          rcases k_set_c he hs4 (p_st_t (D := D) (h1 := bs) (h2 := bt) (tB_0 c_6) (tB_0 c_31) (tB_1 c_56)) with ⟨a1, a2⟩ | ⟨a1, a2⟩
          · exact ⟨rfl, bs, bt, t4, e4, nm4, ep4, pd, pc, op, (zs, cs, upd ts j (nI v), ws, v0, i0, n0, v1, i1, n1, sp, tc), bz_B.last (bs := [_, _]) hB hXx, hk4, ht4, Or.inl ⟨_, a1, a2, hdr.1, hdr.2.1, fun q hq => upd_nI (hdr.2.2.1 q hq), hdr.2.2.2.1, hdr.2.2.2.2⟩⟩
          · exact ⟨rfl, bs, bt, t4, e4, nm4, ep4, pd, pc, op, (zs, cs, upd ts j (nI v), ws, v0, i0, n0, v1, i1, n1, sp, tc), bz_B.last (bs := [_, _]) hB hXx, hk4, ht4, Or.inr ⟨a1, a2⟩⟩)
    · refine g_aload_n (q := 35) dX0_statement_34 rfl rfl ?_
      refine g_aload_n (q := 36) dX0_statement_35 rfl rfl ?_
      refine gb_getf (q := 39) (j := 1) (i := 0) dX0_statement_36 rfl fl_X0_75 hB rfl rfl rfl rfl ?_
      refine g_iconst (q := 40) (v := (nI 2)) dX0_statement_39 rfl (by decide) ?_
      refine g_iconst (q := 41) (v := (nI 4)) dX0_statement_40 rfl (by decide) ?_
      refine g_iconst (q := 42) (v := (nI 0)) dX0_statement_41 rfl (by decide) ?_
      refine g_bipush (q := 44) (v := (nI 8)) dX0_statement_42 rfl (by decide) ?_
      refine gb_callV (q := 47) (j := 0) (i := 0) dX0_statement_44 rfl kv_X0_69 (c_setting (t := t) (e := e) (y := p + 2) (N := 8) (c1 := 2) (c2 := 4) (lo := 0) (hi := 8) hb hn hd ht (by decide) (by decide) (by decide) (by decide) (by decide) (by decide) hk (bz_Wsub hB.1 2 rfl (bz_le rfl))) rfl (by decide) hB rfl rfl rfl rfl (bz_le rfl) (by decide) (by decide) (fun r g1 hQ => ?_)
      obtain ⟨rfl, j, v, t4, e4, nm4, ep4, h1, hk4, ht4, hs4⟩ := hQ
      have hB := bz_B.two3s hB 2 h1 rfl (bz_le rfl)
      refine g_goto (q := 207) dX0_statement_47 (by decide) ?_
      exact g_vret dX0_statement_207 rfl (by
        rcases k_set_c he hs4 (p_st_c (D := D) (h1 := bs) (h2 := bt) (tB_0 c_6) (tB_1 c_31)) with ⟨a1, a2⟩ | ⟨a1, a2⟩
        · exact ⟨rfl, bs, bt, t4, e4, nm4, ep4, pd, pc, op, (zs, upd cs j (nI v), ts, ws, v0, i0, n0, v1, i1, n1, sp, tc), bz_B.last (bs := [_, _]) hB hXx, hk4, ht4, Or.inl ⟨_, a1, a2, hdr.1, fun q hq => upd_nI (hdr.2.1 q hq), hdr.2.2.1, hdr.2.2.2.1, hdr.2.2.2.2⟩⟩
        · exact ⟨rfl, bs, bt, t4, e4, nm4, ep4, pd, pc, op, (zs, upd cs j (nI v), ts, ws, v0, i0, n0, v1, i1, n1, sp, tc), bz_B.last (bs := [_, _]) hB hXx, hk4, ht4, Or.inr ⟨a1, a2⟩⟩)
  · refine g_aload_n (q := 10) dX0_statement_9 rfl rfl ?_
    refine g_aload_n (q := 11) dX0_statement_10 rfl rfl ?_
    refine gb_getf (q := 14) (j := 1) (i := 0) dX0_statement_11 rfl fl_X0_66 hB rfl rfl rfl rfl ?_
    refine g_iconst (q := 15) (v := (nI 2)) dX0_statement_14 rfl (by decide) ?_
    refine g_iconst (q := 16) (v := (nI 4)) dX0_statement_15 rfl (by decide) ?_
    refine g_iconst (q := 17) (v := (nI 1)) dX0_statement_16 rfl (by decide) ?_
    refine g_bipush (q := 19) (v := (nI 8)) dX0_statement_17 rfl (by decide) ?_
    refine gb_callV (q := 22) (j := 0) (i := 0) dX0_statement_19 rfl kv_X0_69 (c_setting (t := t) (e := e) (y := p + 1) (N := 8) (c1 := 2) (c2 := 4) (lo := 1) (hi := 8) hb hn hd ht (by decide) (by decide) (by decide) (by decide) (by decide) (by decide) hk (bz_Wsub hB.1 1 rfl (bz_le rfl))) rfl (by decide) hB rfl rfl rfl rfl (bz_le rfl) (by decide) (by decide) (fun r g1 hQ => ?_)
    obtain ⟨rfl, j, v, t4, e4, nm4, ep4, h1, hk4, ht4, hs4⟩ := hQ
    have hB := bz_B.two3s hB 1 h1 rfl (bz_le rfl)
    refine g_goto (q := 207) dX0_statement_22 (by decide) ?_
    exact g_vret dX0_statement_207 rfl (by
      rcases k_set_c he hs4 (p_st_b (D := D) (h1 := bs) (h2 := bt) (tB_1 c_6)) with ⟨a1, a2⟩ | ⟨a1, a2⟩
      · exact ⟨rfl, bs, bt, t4, e4, nm4, ep4, pd, pc, op, (upd zs j (nI v), cs, ts, ws, v0, i0, n0, v1, i1, n1, sp, tc), bz_B.last (bs := [_, _]) hB hXx, hk4, ht4, Or.inl ⟨_, a1, a2, fun q hq => upd_nI (hdr.1 q hq), hdr.2.1, hdr.2.2.1, hdr.2.2.2.1, hdr.2.2.2.2⟩⟩
      · exact ⟨rfl, bs, bt, t4, e4, nm4, ep4, pd, pc, op, (upd zs j (nI v), cs, ts, ws, v0, i0, n0, v1, i1, n1, sp, tc), bz_B.last (bs := [_, _]) hB hXx, hk4, ht4, Or.inr ⟨a1, a2⟩⟩)
