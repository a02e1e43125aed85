/-! class BridgeText: a sum -/
theorem x_okS.mem {S : List Nat} (h : x_okS S) : ∀ c ∈ S, c < 256 := by
  induction S with
  | nil => intro c hc; cases hc
  | cons d S ih =>
    intro c hc
    rcases List.mem_cons.mp hc with e | e
    · rw [e]
      rcases h.2.1 with q | q
      · omega
      · unfold t_rk at q
        by_cases h1 : d = 43 ∨ d = 45
        · omega
        · rw [if_neg h1] at q
          by_cases h2 : d = 42 ∨ d = 47 ∨ d = 37
          · omega
          · rw [if_neg h2] at q; omega
    · exact ih h.1 c e
theorem x_ops_le {S : List Nat} : x_open S ≤ S.length := List.countP_le_length
theorem bz_W2 {L : List Nat} {g : Nat → va_E} {b0 b1 b2 : Nat × List va_E} (h : bz_W L g [b0, b1, b2]) : bz_W L g [b0, b1] :=
  ⟨fun b hb => h.1 b (by rcases List.mem_cons.mp hb with e | e; · rw [e]; exact List.mem_cons_self
                         · rw [List.mem_singleton.mp e]; exact List.mem_cons_of_mem _ List.mem_cons_self),
   List.pairwise_cons.mpr ⟨fun b hb => (List.pairwise_cons.mp h.2).1 b (by rw [List.mem_singleton.mp hb]; exact List.mem_cons_self), List.pairwise_singleton _ _⟩⟩
/-- behind a call on the first two of three blocks -/
theorem bz_B.two3 {L : List Nat} {g0 g g1 : Nat → va_E} {o0 o1 : Nat} {a0 a1 e0 e1 : List va_E} {b2 : Nat × List va_E} (h : bz_B L g0 g [(o0, a0), (o1, a1), b2]) (h1 : bz_B L g g1 [(o0, e0), (o1, e1)]) (hl : a0.length = e0.length ∧ a1.length = e1.length) : bz_B L g0 g1 [(o0, e0), (o1, e1), b2] := by
  obtain ⟨gm, m1, m2⟩ := bz_B.mid (h.1.at (j := 0) rfl) hl.1 h1
  have x1 := h.sp (j := 0) rfl 0 rfl m1 (by rw [hl.1]; exact Nat.le_of_eq (Nat.zero_add _))
  have e0' : bz_sp a0 0 e0 = e0 := by
    unfold bz_sp
    rw [List.take_zero, List.nil_append, Nat.zero_add, ← hl.1, List.drop_length, List.append_nil]
  rw [e0'] at x1
  have x2 := x1.sp (j := 1) (o := o1) (es := a1) rfl 0 rfl m2 (by rw [hl.2]; exact Nat.le_of_eq (Nat.zero_add _))
  have e1' : bz_sp a1 0 e1 = e1 := by
    unfold bz_sp
    rw [List.take_zero, List.nil_append, Nat.zero_add, ← hl.2, List.drop_length, List.append_nil]
  rw [e1'] at x2
  exact x2
theorem x_err {b : Nat → Nat} {n : Nat} {σ : Xs} {z : Nat × Nat} (h : x_step b n σ = .inr (.inr z)) : z.1 ≠ 0 := by
  unfold x_step at h
  by_cases h1 : σ.1 = true
  · rw [if_pos h1] at h
    by_cases h2 : kK σ.2.2.2 = 40
    · rw [if_pos h2] at h
      by_cases h3 : x_open σ.2.1 < 5
      · rw [if_pos h3] at h; cases h
      · rw [if_neg h3] at h; cases h; exact Nat.succ_ne_zero _
    · rw [if_neg h2] at h
      cases hf : x_fac b σ.2.2.2 with
      | none => rw [hf] at h; cases h; exact Nat.succ_ne_zero _
      | some i => rw [hf] at h; cases h
  · rw [if_neg h1] at h
    by_cases h2 : 0 < t_rk (kK σ.2.2.2)
    · rw [if_pos h2] at h; cases h
    · rw [if_neg h2] at h
      by_cases h3 : kK σ.2.2.2 = 41 ∧ 0 < x_open σ.2.1
      · rw [if_pos h3] at h; cases h
      · rw [if_neg h3] at h
        by_cases h4 : 0 < x_open σ.2.1
        · rw [if_pos h4] at h; cases h; exact Nat.succ_ne_zero _
        · rw [if_neg h4] at h; cases h
set_option maxRecDepth 20000 in
set_option maxHeartbeats 1000000 in
theorem c_sum0 {l : Launch} {E : bz_E} {L : List Nat} {g : Nat → va_E} {o x n y : Nat} {b : Nat → Nat} {f0 pd v0 it : Nat → Int32} {t : Tok} {e : Nat × Nat} {nm ep hs ht1 pc op z : Int32} (hb : ∀ i, b i < 256) (hn : n ≤ 600) (hd : o + 3 ≤ x ∨ x + 1 ≤ o) (ht : t_is b n t) (he : e.1 = 0) (hk : k_ok t e nm ep) (hW : bz_W L g [(o, (b_T E o x n (kE t) (kK t) (kS t) nm (nI e.1) ep hs ht1 f0 pd pc op)), (y, b_Sum E y v0 it z), (x, b_In E b)]) : bz_K l E mX0_sum 6 [.ref o, .ref y] L g (fun r g1 => r = none ∧ ∃ (t1 : Tok) (e1 : Nat × Nat) (nm1 ep1 : Int32) (pd1 : Nat → Int32) (pc1 op1 : Int32) (it1 : Nat → Int32) (z1 : Int32), bz_B L g g1 [(o, (b_T E o x n (kE t1) (kK t1) (kS t1) nm1 (nI e1.1) ep1 hs ht1 f0 pd1 pc1 op1)), (y, b_Sum E y v0 it1 z1)] ∧ k_ok t1 e1 nm1 ep1 ∧ t_is b n t1 ∧ ((∃ l0 : List Int32, x_run b n 601 (true, [], [], t) = some (.inl (l0, t1)) ∧ e1 = e ∧ z1 = nI l0.length ∧ k_it it1 l0) ∨ x_run b n 601 (true, [], [], t) = some (.inr e1))) := by
  refine bz_K.of (by decide) (bz_le rfl) (fun sz => ?_)
  show bz_G _ _ _ _ _ _ _ _ _ _ _ _ 0 [(0, .ref o), (1, .ref y)] []
  have hB := bz_B.rf hW
  have hle := ht.le
  have KE : ∀ (S : List Nat) (u : List Int32) (t2 : Tok) (e2 : Nat × Nat) (nm2 ep2 : Int32) (pd2 it2 : Nat → Int32) (g1 : Nat → va_E), t_is b n t2 → x_okS S → x_open S ≤ 5 → u.length + S.length ≤ 600 → k_ok t2 e2 nm2 ep2 → k_sk pd2 S → k_it it2 u → ((e2.1 ≠ 0 ∧ x_run b n 601 (true, [], [], t) = some (.inr e2)) ∨ (e2.1 = 0 ∧ 0 < x_open S ∧ x_run b n 601 (true, [], [], t) = some (.inr (1, kS t2))) ∨ (e2.1 = 0 ∧ x_open S = 0 ∧ e2 = e ∧ x_run b n 601 (true, [], [], t) = some (.inl ((x_fl 1 S u).2, t2)))) → bz_B L g g1 [(o, (b_T E o x n (kE t2) (kK t2) (kS t2) nm2 (nI e2.1) ep2 hs ht1 f0 pd2 (nI S.length) (nI (x_open S)))), (y, b_Sum E y v0 it2 (nI u.length)), (x, b_In E b)] → bz_G l E mX0_sum (bz_R 6 0 0) L sz (bz_Fm E L sz (fun r g1 => r = none ∧ ∃ (t1 : Tok) (e1 : Nat × Nat) (nm1 ep1 : Int32) (pd1 : Nat → Int32) (pc1 op1 : Int32) (it1 : Nat → Int32) (z1 : Int32), bz_B L g g1 [(o, (b_T E o x n (kE t1) (kK t1) (kS t1) nm1 (nI e1.1) ep1 hs ht1 f0 pd1 pc1 op1)), (y, b_Sum E y v0 it1 z1)] ∧ k_ok t1 e1 nm1 ep1 ∧ t_is b n t1 ∧ ((∃ l0 : List Int32, x_run b n 601 (true, [], [], t) = some (.inl (l0, t1)) ∧ e1 = e ∧ z1 = nI l0.length ∧ k_it it1 l0) ∨ x_run b n 601 (true, [], [], t) = some (.inr e1)))) sz 0 0 L g1 142 [(0, .ref o), (1, .ref y)] [] := by
    intro S u t2 e2 nm2 ep2 pd2 it2 g2 ht2 hi2 ho2 hl2 hk2 hsk2 hit2 hres hB
    have hbn := hi2.bnd ho2
    refine g_aload_n (q := 143) dX0_sum_142 rfl rfl ?_
    refine gb_getf (q := 146) (j := 0) (i := 0) dX0_sum_143 rfl fl_X0_129 hB rfl rfl rfl rfl ?_
    refine g_ifN_le (q := 149) (t := 154) dX0_sum_146 rfl (by decide) (by omega) (fun c_146 => ?_) (fun c_146 => ?_)
    · refine g_aload_n (q := 155) dX0_sum_154 rfl rfl ?_
      refine g_aload_n (q := 156) dX0_sum_155 rfl rfl ?_
      refine g_iconst (q := 157) (v := (nI 1)) dX0_sum_156 rfl (by decide) ?_
      refine gb_callV (q := 160) (j := 0) (i := 0) dX0_sum_157 rfl kv_X0_139 (c_addPending (r0 := 1) (by omega) hi2.mem (by omega) (by omega) hsk2 hit2 (bz_W2 hB.1)) rfl (by decide) hB rfl rfl rfl rfl (bz_le rfl) (by decide) (by decide) (fun r g1 hQ => ?_)
      obtain ⟨rfl, it3, h1, hit3⟩ := hQ
      have hB := bz_B.two3 hB h1 ⟨rfl, rfl⟩
      exact g_vret dX0_sum_160 rfl (by
      rcases hres with ⟨a1, a2⟩ | ⟨a1, a2, a3⟩ | ⟨a1, a2, a3, a4⟩
      · exact ⟨rfl, t2, e2, nm2, ep2, pd2, _, _, it3, _, bz_B.last (bs := [_, _]) hB (hW.1 (x, b_In E b) (List.mem_cons_of_mem _ (List.mem_cons_of_mem _ List.mem_cons_self))), hk2, ht2, Or.inr a2⟩
      · exact absurd c_146 (by omega)
      · exact ⟨rfl, t2, e2, nm2, ep2, pd2, _, _, it3, _, bz_B.last (bs := [_, _]) hB (hW.1 (x, b_In E b) (List.mem_cons_of_mem _ (List.mem_cons_of_mem _ List.mem_cons_self))), hk2, ht2, Or.inl ⟨_, a4, a3, rfl, hit3⟩⟩)
    · refine g_aload_n (q := 150) dX0_sum_149 rfl rfl ?_
      refine g_iconst (q := 151) (v := (nI 1)) dX0_sum_150 rfl (by decide) ?_
      refine gb_callV (q := 154) (j := 0) (i := 0) dX0_sum_151 rfl kv_X0_114 (c_fail (t := t2) (e := e2) (ep := ep2) (c := 1) (by decide) hk2 (hB.1.at (j := 0) rfl)) rfl (by decide) hB rfl rfl rfl rfl (bz_le rfl) (by decide) (by decide) (fun r g1 hQ => ?_)
      obtain ⟨rfl, ep3, h1, hk3⟩ := hQ
      have hB := hB.sp (j := 0) rfl 0 rfl h1 (bz_le rfl)
      refine g_aload_n (q := 155) dX0_sum_154 rfl rfl ?_
      refine g_aload_n (q := 156) dX0_sum_155 rfl rfl ?_
      refine g_iconst (q := 157) (v := (nI 1)) dX0_sum_156 rfl (by decide) ?_
      refine gb_callV (q := 160) (j := 0) (i := 0) dX0_sum_157 rfl kv_X0_139 (c_addPending (r0 := 1) (by omega) hi2.mem (by omega) (by omega) hsk2 hit2 (bz_W2 hB.1)) rfl (by decide) hB rfl rfl rfl rfl (bz_le rfl) (by decide) (by decide) (fun r g1 hQ => ?_)
      obtain ⟨rfl, it3, h1, hit3⟩ := hQ
      have hB := bz_B.two3 hB h1 ⟨rfl, rfl⟩
      exact g_vret dX0_sum_160 rfl (by
      rcases hres with ⟨a1, a2⟩ | ⟨a1, a2, a3⟩ | ⟨a1, a2, a3, a4⟩
      · exact ⟨rfl, t2, k_fail e2 1 t2, nm2, ep3, pd2, _, _, it3, _, bz_B.last (bs := [_, _]) hB (hW.1 (x, b_In E b) (List.mem_cons_of_mem _ (List.mem_cons_of_mem _ List.mem_cons_self))), hk3, ht2, Or.inr (by rw [k_fail_1 a1]; exact a2)⟩
      · exact ⟨rfl, t2, k_fail e2 1 t2, nm2, ep3, pd2, _, _, it3, _, bz_B.last (bs := [_, _]) hB (hW.1 (x, b_In E b) (List.mem_cons_of_mem _ (List.mem_cons_of_mem _ List.mem_cons_self))), hk3, ht2, Or.inr (by rw [k_fail_0 a1]; exact a3)⟩
      · exact absurd c_146 (by omega))
  have KX : ∀ (i d3 : Nat) (d2 : Int32) (S : List Nat) (u : List Int32) (t2 : Tok) (e2 : Nat × Nat) (nm2 ep2 : Int32) (pd2 it2 : Nat → Int32) (g1 : Nat → va_E), i < 1000 → d3 ≤ 1 → (d3 = 1 ∨ e2.1 ≠ 0) → t_is b n t2 → x_okS S → x_open S ≤ 5 → u.length + S.length ≤ 600 → k_ok t2 e2 nm2 ep2 → k_sk pd2 S → k_it it2 u → ((e2.1 ≠ 0 ∧ x_run b n 601 (true, [], [], t) = some (.inr e2)) ∨ (e2.1 = 0 ∧ 0 < x_open S ∧ x_run b n 601 (true, [], [], t) = some (.inr (1, kS t2))) ∨ (e2.1 = 0 ∧ x_open S = 0 ∧ e2 = e ∧ x_run b n 601 (true, [], [], t) = some (.inl ((x_fl 1 S u).2, t2)))) → bz_B L g g1 [(o, (b_T E o x n (kE t2) (kK t2) (kS t2) nm2 (nI e2.1) ep2 hs ht1 f0 pd2 (nI S.length) (nI (x_open S)))), (y, b_Sum E y v0 it2 (nI u.length)), (x, b_In E b)] → bz_G l E mX0_sum (bz_R 6 0 0) L sz (bz_Fm E L sz (fun r g1 => r = none ∧ ∃ (t1 : Tok) (e1 : Nat × Nat) (nm1 ep1 : Int32) (pd1 : Nat → Int32) (pc1 op1 : Int32) (it1 : Nat → Int32) (z1 : Int32), bz_B L g g1 [(o, (b_T E o x n (kE t1) (kK t1) (kS t1) nm1 (nI e1.1) ep1 hs ht1 f0 pd1 pc1 op1)), (y, b_Sum E y v0 it1 z1)] ∧ k_ok t1 e1 nm1 ep1 ∧ t_is b n t1 ∧ ((∃ l0 : List Int32, x_run b n 601 (true, [], [], t) = some (.inl (l0, t1)) ∧ e1 = e ∧ z1 = nI l0.length ∧ k_it it1 l0) ∨ x_run b n 601 (true, [], [], t) = some (.inr e1)))) sz 0 0 L g1 21 [(4, .int (nI i)), (2, .int d2), (3, .int (nI d3)), (0, .ref o), (1, .ref y)] [] := by
    intro i d3 d2 S u t2 e2 nm2 ep2 pd2 it2 g2 hi9 h31 hor ht2 hi2 ho2 hl2 hk2 hsk2 hit2 hres hB
    have h4 := hk2.2.2
    have kk : bz_G l E mX0_sum (bz_R 6 0 0) L sz (bz_Fm E L sz (fun r g1 => r = none ∧ ∃ (t1 : Tok) (e1 : Nat × Nat) (nm1 ep1 : Int32) (pd1 : Nat → Int32) (pc1 op1 : Int32) (it1 : Nat → Int32) (z1 : Int32), bz_B L g g1 [(o, (b_T E o x n (kE t1) (kK t1) (kS t1) nm1 (nI e1.1) ep1 hs ht1 f0 pd1 pc1 op1)), (y, b_Sum E y v0 it1 z1)] ∧ k_ok t1 e1 nm1 ep1 ∧ t_is b n t1 ∧ ((∃ l0 : List Int32, x_run b n 601 (true, [], [], t) = some (.inl (l0, t1)) ∧ e1 = e ∧ z1 = nI l0.length ∧ k_it it1 l0) ∨ x_run b n 601 (true, [], [], t) = some (.inr e1)))) sz 0 0 L g2 142 [(0, .ref o), (1, .ref y)] [] := KE S u t2 e2 nm2 ep2 pd2 it2 g2 ht2 hi2 ho2 hl2 hk2 hsk2 hit2 hres hB
    refine g_iload (q := 23) dX0_sum_21 rfl rfl ?_
    refine g_sipush (q := 26) (v := (nI 600)) dX0_sum_23 rfl (by decide) ?_
    refine g_icmpN_gt (q := 29) (t := 142) dX0_sum_26 rfl (by decide) (by omega) (by omega) (fun c_26 => ?_) (fun c_26 => ?_)
    · refine g_lvs (lv1 := [(0, .ref o), (1, .ref y)]) ⟨rfl, rfl, trivial⟩ ?_
      exact kk
    · refine g_aload_n (q := 30) dX0_sum_29 rfl rfl ?_
      refine gb_getf (q := 33) (j := 0) (i := 0) dX0_sum_30 rfl fl_X0_26 hB rfl rfl rfl rfl ?_
      refine g_ifN_ne (q := 36) (t := 142) dX0_sum_33 rfl (by decide) (by omega) (fun c_33 => ?_) (fun c_33 => ?_)
      · refine g_lvs (lv1 := [(0, .ref o), (1, .ref y)]) ⟨rfl, rfl, trivial⟩ ?_
        exact kk
      · refine g_iload_n (q := 37) dX0_sum_36 rfl rfl ?_
        refine g_ifN_ne (q := 40) (t := 142) dX0_sum_37 rfl (by decide) (by omega) (fun _ => ?_) (fun c => absurd c (by omega))
        refine g_lvs (lv1 := [(0, .ref o), (1, .ref y)]) ⟨rfl, rfl, trivial⟩ ?_
        exact kk
  obtain ⟨res, hR⟩ := x_run_end (b := b) (n := n) 601 (true, [], [], t) ht (by omega)
  have K : ∀ (k i : Nat) (du : Bool) (S : List Nat) (u : List Int32) (t2 : Tok) (nm2 ep2 : Int32) (pd2 it2 : Nat → Int32) (g1 : Nat → va_E), i + k = 601 → x_inv b n (du, S, u, t2) → x_run b n k (du, S, u, t2) = some res → k_ok t2 e nm2 ep2 → k_sk pd2 S → k_it it2 u → bz_B L g g1 [(o, (b_T E o x n (kE t2) (kK t2) (kS t2) nm2 (nI e.1) ep2 hs ht1 f0 pd2 (nI S.length) (nI (x_open S)))), (y, b_Sum E y v0 it2 (nI u.length)), (x, b_In E b)] → bz_G l E mX0_sum (bz_R 6 0 0) L sz (bz_Fm E L sz (fun r g1 => r = none ∧ ∃ (t1 : Tok) (e1 : Nat × Nat) (nm1 ep1 : Int32) (pd1 : Nat → Int32) (pc1 op1 : Int32) (it1 : Nat → Int32) (z1 : Int32), bz_B L g g1 [(o, (b_T E o x n (kE t1) (kK t1) (kS t1) nm1 (nI e1.1) ep1 hs ht1 f0 pd1 pc1 op1)), (y, b_Sum E y v0 it1 z1)] ∧ k_ok t1 e1 nm1 ep1 ∧ t_is b n t1 ∧ ((∃ l0 : List Int32, x_run b n 601 (true, [], [], t) = some (.inl (l0, t1)) ∧ e1 = e ∧ z1 = nI l0.length ∧ k_it it1 l0) ∨ x_run b n 601 (true, [], [], t) = some (.inr e1)))) sz 0 0 L g1 21 [(4, .int (nI i)), (2, .int (tB du)), (3, .int (nI 0)), (0, .ref o), (1, .ref y)] [] := by
    intro k
    induction k with
    | zero => intro i du S u t2 nm2 ep2 pd2 it2 g2 _ _ hx; simp [x_run] at hx
    | succ k ih =>
      intro i du S u t2 nm2 ep2 pd2 it2 g2 hik hi hx hk2 hsk2 hit2 hB
      have ht2 : t_is b n t2 := hi.1
      have hi2 : x_okS S := hi.2.1
      have ho2 : x_open S ≤ 5 := hi.2.2.1
      have hlu : u.length + S.length ≤ kS t2 := hi.2.2.2.2
      have hle := ht2.le
      have h256 := ht2.k256 hb
      have hbn := hi2.bnd ho2
      cases du with
      | true =>
      have KB : bz_G l E mX0_sum (bz_R 6 0 0) L sz (bz_Fm E L sz (fun r g1 => r = none ∧ ∃ (t1 : Tok) (e1 : Nat × Nat) (nm1 ep1 : Int32) (pd1 : Nat → Int32) (pc1 op1 : Int32) (it1 : Nat → Int32) (z1 : Int32), bz_B L g g1 [(o, (b_T E o x n (kE t1) (kK t1) (kS t1) nm1 (nI e1.1) ep1 hs ht1 f0 pd1 pc1 op1)), (y, b_Sum E y v0 it1 z1)] ∧ k_ok t1 e1 nm1 ep1 ∧ t_is b n t1 ∧ ((∃ l0 : List Int32, x_run b n 601 (true, [], [], t) = some (.inl (l0, t1)) ∧ e1 = e ∧ z1 = nI l0.length ∧ k_it it1 l0) ∨ x_run b n 601 (true, [], [], t) = some (.inr e1)))) sz 0 0 L g2 59 [(2, .int (tB (decide (kK t2 = 40)))), (3, .int (nI 0)), (4, .int (nI i)), (0, .ref o), (1, .ref y)] [] := by
        refine g_aload_n (q := 60) dX0_sum_59 rfl rfl ?_
        refine g_aload_n (q := 61) dX0_sum_60 rfl rfl ?_
        refine gb_callV (q := 64) (j := 0) (i := 0) dX0_sum_61 rfl kv_X0_132 (c_beginFactor hb hn hd hi he hk2 hsk2 hit2 hB.1) rfl (by decide) hB rfl rfl rfl rfl (bz_le rfl) (by decide) (by decide) (fun r g1 hQ => ?_)
        obtain ⟨rfl, S3, u3, e3, ep3, pd3, it3, h1, hk3, hsk3, hit3, hst⟩ := hQ
        have hB := bz_B.two3 hB h1 ⟨rfl, rfl⟩
        refine g_goto (q := 128) dX0_sum_64 (by decide) ?_
        refine g_iload_n (q := 129) dX0_sum_128 rfl rfl ?_
        refine g_ifN_ne (q := 132) (t := 136) dX0_sum_129 rfl (by decide) (by omega) (fun c => absurd c (by omega)) (fun _ => ?_)
        refine g_aload_n (q := 133) dX0_sum_132 rfl rfl ?_
        refine gb_callV (q := 136) (j := 0) (i := 0) dX0_sum_133 rfl kv_X0_44 (c_step (p := kE t2) hb hn hd (hB.1.at (j := 2) rfl) (by omega) (hB.1.at (j := 0) rfl)) rfl (by decide) hB rfl rfl rfl rfl (bz_le rfl) (by decide) (by decide) (fun r g1 hQ => ?_)
        obtain ⟨rfl, t3, nm3, h1, rfl, hkn⟩ := hQ
        have hB := hB.sp (j := 0) rfl 0 rfl h1 (bz_le rfl)
        refine g_iincN (q := 139) (c := 1) dX0_sum_136 rfl (by decide) rfl rfl (by decide) ?_
        refine g_goto (q := 21) dX0_sum_139 (by decide) ?_
        refine g_lvs (lv1 := [(4, .int (nI (i + 1))), (2, .int (tB (decide (kK t2 = 40)))), (3, .int (nI 0)), (0, .ref o), (1, .ref y)]) ⟨rfl, rfl, rfl, rfl, rfl, trivial⟩ ?_
        have hBf := hB
        rcases hst with ⟨hs, rfl⟩ | ⟨hs, rfl, rfl⟩
        · exact ih (i + 1) (decide (kK t2 = 40)) S3 u3 (t_nx b n t2) nm3 ep3 pd3 it3 _ (by omega) (hi.step hs) (by rw [x_run_l hs] at hx; exact hx) ⟨hkn, hk3.2⟩ hsk3 hit3 hBf
        · have hres : res = .inr e3 := by rw [x_run_r hs] at hx; exact (Option.some.inj hx).symm
          exact KX (i + 1) 0 _ S3 u3 (t_nx b n t2) e3 nm3 ep3 pd3 it3 _ (by omega) (by omega) (Or.inr (x_err hs)) (t_nx_is ht2).1 hi2 ho2 (by omega) ⟨hkn, hk3.2⟩ hsk3 hit3 (Or.inl ⟨x_err hs, by rw [hR, hres]⟩) hBf
      refine g_lvs (lv1 := [(4, .int (nI i)), (2, .int (nI 1)), (3, .int (nI 0)), (0, .ref o), (1, .ref y)]) ⟨rfl, rfl, rfl, rfl, rfl, trivial⟩ ?_
      refine g_iload (q := 23) dX0_sum_21 rfl rfl ?_
      refine g_sipush (q := 26) (v := (nI 600)) dX0_sum_23 rfl (by decide) ?_
      refine g_icmpN_gt (q := 29) (t := 142) dX0_sum_26 rfl (by decide) (by omega) (by omega) (fun c => absurd c (by omega)) (fun _ => ?_)
      refine g_aload_n (q := 30) dX0_sum_29 rfl rfl ?_
      refine gb_getf (q := 33) (j := 0) (i := 0) dX0_sum_30 rfl fl_X0_26 hB rfl rfl rfl rfl ?_
      refine g_ifN_ne (q := 36) (t := 142) dX0_sum_33 rfl (by decide) (by omega) (fun c => absurd c (by omega)) (fun _ => ?_)
      refine g_iload_n (q := 37) dX0_sum_36 rfl rfl ?_
      refine g_ifN_ne (q := 40) (t := 142) dX0_sum_37 rfl (by decide) (by omega) (fun c => absurd c (by omega)) (fun _ => ?_)
      refine g_iload_n (q := 41) dX0_sum_40 rfl rfl ?_
      refine g_ifN_eq (q := 44) (t := 67) dX0_sum_41 rfl (by decide) (by omega) (fun c => absurd c (by omega)) (fun _ => ?_)
      refine g_aload_n (q := 45) dX0_sum_44 rfl rfl ?_
      refine gb_getf (q := 48) (j := 0) (i := 0) dX0_sum_45 rfl fl_X0_47 hB rfl rfl rfl rfl ?_
      refine g_bipush (q := 50) (v := (nI 40)) dX0_sum_48 rfl (by decide) ?_
      refine g_icmpN_ne (q := 53) (t := 57) dX0_sum_50 rfl (by decide) (by omega) (by omega) (fun c_50 => ?_) (fun c_50 => ?_)
      · refine g_iconst (q := 58) (v := (nI 0)) dX0_sum_57 rfl (by decide) ?_
        refine g_eqi (v := tB (decide (kK t2 = 40))) (by rw [decide_eq_false c_50]; rfl) ?_
        refine g_istore_n (q := 59) rfl dX0_sum_58 rfl (by decide) rfl ?_
        refine g_lvs (lv1 := [(2, .int (tB (decide (kK t2 = 40)))), (3, .int (nI 0)), (4, .int (nI i)), (0, .ref o), (1, .ref y)]) ⟨rfl, rfl, rfl, rfl, rfl, trivial⟩ ?_
        exact KB
      · refine g_iconst (q := 54) (v := (nI 1)) dX0_sum_53 rfl (by decide) ?_
        refine g_eqi (v := tB (decide (kK t2 = 40))) (by rw [decide_eq_true c_50]; rfl) ?_
        refine g_goto (q := 58) dX0_sum_54 (by decide) ?_
        refine g_istore_n (q := 59) rfl dX0_sum_58 rfl (by decide) rfl ?_
        refine g_lvs (lv1 := [(2, .int (tB (decide (kK t2 = 40)))), (3, .int (nI 0)), (4, .int (nI i)), (0, .ref o), (1, .ref y)]) ⟨rfl, rfl, rfl, rfl, rfl, trivial⟩ ?_
        exact KB
      | false =>
      refine g_lvs (lv1 := [(4, .int (nI i)), (2, .int (nI 0)), (3, .int (nI 0)), (0, .ref o), (1, .ref y)]) ⟨rfl, rfl, rfl, rfl, rfl, trivial⟩ ?_
      refine g_iload (q := 23) dX0_sum_21 rfl rfl ?_
      refine g_sipush (q := 26) (v := (nI 600)) dX0_sum_23 rfl (by decide) ?_
      refine g_icmpN_gt (q := 29) (t := 142) dX0_sum_26 rfl (by decide) (by omega) (by omega) (fun c => absurd c (by omega)) (fun _ => ?_)
      refine g_aload_n (q := 30) dX0_sum_29 rfl rfl ?_
      refine gb_getf (q := 33) (j := 0) (i := 0) dX0_sum_30 rfl fl_X0_26 hB rfl rfl rfl rfl ?_
      refine g_ifN_ne (q := 36) (t := 142) dX0_sum_33 rfl (by decide) (by omega) (fun c => absurd c (by omega)) (fun _ => ?_)
      refine g_iload_n (q := 37) dX0_sum_36 rfl rfl ?_
      refine g_ifN_ne (q := 40) (t := 142) dX0_sum_37 rfl (by decide) (by omega) (fun c => absurd c (by omega)) (fun _ => ?_)
      refine g_iload_n (q := 41) dX0_sum_40 rfl rfl ?_
      refine g_ifN_eq (q := 44) (t := 67) dX0_sum_41 rfl (by decide) (by omega) (fun _ => ?_) (fun c => absurd c (by omega))
      refine g_aload_n (q := 68) dX0_sum_67 rfl rfl ?_
      refine gb_getf (q := 71) (j := 0) (i := 0) dX0_sum_68 rfl fl_X0_47 hB rfl rfl rfl rfl ?_
      refine g_callS (q := 74) dX0_sum_71 rfl ks_X0_135 rfl (c_rankOf (v := nI (kK t2))) (by decide) rfl (bz_le rfl) (by decide) (by decide) (fun r g1 hQ => ?_)
      obtain ⟨rfl, hg⟩ := hQ
      have hg := hg.symm
      subst hg
      refine g_eqi (v := nI (t_rk (kK t2))) (k_rk_c _ h256) ?_
      refine g_ifN_le (q := 77) (t := 102) dX0_sum_74 rfl (by decide) (by have := t_rk_le (kK t2); omega) (fun c_74 => ?_) (fun c_74 => ?_)
      · refine g_aload_n (q := 103) dX0_sum_102 rfl rfl ?_
        refine gb_getf (q := 106) (j := 0) (i := 0) dX0_sum_103 rfl fl_X0_47 hB rfl rfl rfl rfl ?_
        refine g_bipush (q := 108) (v := (nI 41)) dX0_sum_106 rfl (by decide) ?_
        refine g_icmpN_ne (q := 111) (t := 126) dX0_sum_108 rfl (by decide) (by omega) (by omega) (fun c_108 => ?_) (fun c_108 => ?_)
        · refine g_iconst (q := 127) (v := (nI 1)) dX0_sum_126 rfl (by decide) ?_
          refine g_istore_n (q := 128) rfl dX0_sum_127 rfl (by decide) rfl ?_
          refine g_iload_n (q := 129) dX0_sum_128 rfl rfl ?_
          refine g_ifN_ne (q := 132) (t := 136) dX0_sum_129 rfl (by decide) (by omega) (fun _ => ?_) (fun c => absurd c (by omega))
          refine g_iincN (q := 139) (c := 1) dX0_sum_136 rfl (by decide) rfl rfl (by decide) ?_
          refine g_goto (q := 21) dX0_sum_139 (by decide) ?_
          refine g_lvs (lv1 := [(4, .int (nI (i + 1))), (2, .int (nI 0)), (3, .int (nI 1)), (0, .ref o), (1, .ref y)]) ⟨rfl, rfl, rfl, rfl, rfl, trivial⟩ ?_
          have hs := x_step_e (b := b) (n := n) (S := S) (u := u) (t := t2) c_74 (fun q => by first | exact absurd q c_108 | exact c_115)
          rcases Nat.eq_zero_or_pos (x_open S) with h0 | h0
          · rw [if_neg (by omega)] at hs
            have hres : res = .inl ((x_fl 1 S u).2, t2) := by rw [x_run_r hs] at hx; exact (Option.some.inj hx).symm
            exact KX (i + 1) 1 _ S u t2 e nm2 ep2 pd2 it2 _ (by omega) (by omega) (Or.inl rfl) ht2 hi2 ho2 (by omega) hk2 hsk2 hit2 (Or.inr (Or.inr ⟨he, h0, rfl, by rw [hR, hres]⟩)) hB
          · rw [if_pos h0] at hs
            have hres : res = .inr (1, kS t2) := by rw [x_run_r hs] at hx; exact (Option.some.inj hx).symm
            exact KX (i + 1) 1 _ S u t2 e nm2 ep2 pd2 it2 _ (by omega) (by omega) (Or.inl rfl) ht2 hi2 ho2 (by omega) hk2 hsk2 hit2 (Or.inr (Or.inl ⟨he, h0, by rw [hR, hres]⟩)) hB
        · refine g_aload_n (q := 112) dX0_sum_111 rfl rfl ?_
          refine gb_getf (q := 115) (j := 0) (i := 0) dX0_sum_112 rfl fl_X0_129 hB rfl rfl rfl rfl ?_
          refine g_ifN_le (q := 118) (t := 126) dX0_sum_115 rfl (by decide) (by omega) (fun c_115 => ?_) (fun c_115 => ?_)
          · refine g_iconst (q := 127) (v := (nI 1)) dX0_sum_126 rfl (by decide) ?_
            refine g_istore_n (q := 128) rfl dX0_sum_127 rfl (by decide) rfl ?_
            refine g_iload_n (q := 129) dX0_sum_128 rfl rfl ?_
            refine g_ifN_ne (q := 132) (t := 136) dX0_sum_129 rfl (by decide) (by omega) (fun _ => ?_) (fun c => absurd c (by omega))
            refine g_iincN (q := 139) (c := 1) dX0_sum_136 rfl (by decide) rfl rfl (by decide) ?_
            refine g_goto (q := 21) dX0_sum_139 (by decide) ?_
            refine g_lvs (lv1 := [(4, .int (nI (i + 1))), (2, .int (nI 0)), (3, .int (nI 1)), (0, .ref o), (1, .ref y)]) ⟨rfl, rfl, rfl, rfl, rfl, trivial⟩ ?_
            have hs := x_step_e (b := b) (n := n) (S := S) (u := u) (t := t2) c_74 (fun q => by first | exact absurd q c_108 | exact c_115)
            rcases Nat.eq_zero_or_pos (x_open S) with h0 | h0
            · rw [if_neg (by omega)] at hs
              have hres : res = .inl ((x_fl 1 S u).2, t2) := by rw [x_run_r hs] at hx; exact (Option.some.inj hx).symm
              exact KX (i + 1) 1 _ S u t2 e nm2 ep2 pd2 it2 _ (by omega) (by omega) (Or.inl rfl) ht2 hi2 ho2 (by omega) hk2 hsk2 hit2 (Or.inr (Or.inr ⟨he, h0, rfl, by rw [hR, hres]⟩)) hB
            · rw [if_pos h0] at hs
              have hres : res = .inr (1, kS t2) := by rw [x_run_r hs] at hx; exact (Option.some.inj hx).symm
              exact KX (i + 1) 1 _ S u t2 e nm2 ep2 pd2 it2 _ (by omega) (by omega) (Or.inl rfl) ht2 hi2 ho2 (by omega) hk2 hsk2 hit2 (Or.inr (Or.inl ⟨he, h0, by rw [hR, hres]⟩)) hB
          · have hfo := x_fl_ok (r := 1) (Nat.le_refl 1) S u hi2 hi.2.2.2.1
            obtain ⟨S9, hfl⟩ := x_fl_top hfo.1 hfo.2.2.2.1 (by omega)
            have h9 : x_open S - 1 = x_open (x_fl 1 S u).1.tail := by
              have := hfo.2.2.1
              rw [hfl, x_open_c, if_pos rfl] at this
              rw [hfl]
              show _ = x_open S9
              omega
            refine g_aload_n (q := 119) dX0_sum_118 rfl rfl ?_
            refine g_aload_n (q := 120) dX0_sum_119 rfl rfl ?_
            refine gb_callV (q := 123) (j := 0) (i := 0) dX0_sum_120 rfl kv_X0_146 (c_closeBracket (k := x_open S) (by omega) hfl (by have h7 := hfo.1.bnd (by have := hfo.2.2.1; omega); rw [hfl] at h7; have h8 : S9.length + 1 ≤ 17 := h7.1; omega) hi2.mem (by omega) (by omega) hsk2 hit2 (bz_W2 hB.1)) rfl (by decide) hB rfl rfl rfl rfl (bz_le rfl) (by decide) (by decide) (fun r g1 hQ => ?_)
            obtain ⟨rfl, it3, h1, hit3⟩ := hQ
            have hB := bz_B.two3 hB h1 ⟨rfl, rfl⟩
            refine g_goto (q := 128) dX0_sum_123 (by decide) ?_
            refine g_iload_n (q := 129) dX0_sum_128 rfl rfl ?_
            refine g_ifN_ne (q := 132) (t := 136) dX0_sum_129 rfl (by decide) (by omega) (fun c => absurd c (by omega)) (fun _ => ?_)
            refine g_aload_n (q := 133) dX0_sum_132 rfl rfl ?_
            refine gb_callV (q := 136) (j := 0) (i := 0) dX0_sum_133 rfl kv_X0_44 (c_step (p := kE t2) hb hn hd (hB.1.at (j := 2) rfl) (by omega) (hB.1.at (j := 0) rfl)) rfl (by decide) hB rfl rfl rfl rfl (bz_le rfl) (by decide) (by decide) (fun r g1 hQ => ?_)
            obtain ⟨rfl, t3, nm3, h1, rfl, hkn⟩ := hQ
            have hB := hB.sp (j := 0) rfl 0 rfl h1 (bz_le rfl)
            refine g_iincN (q := 139) (c := 1) dX0_sum_136 rfl (by decide) rfl rfl (by decide) ?_
            refine g_goto (q := 21) dX0_sum_139 (by decide) ?_
            refine g_lvs (lv1 := [(4, .int (nI (i + 1))), (2, .int (nI 0)), (3, .int (nI 0)), (0, .ref o), (1, .ref y)]) ⟨rfl, rfl, rfl, rfl, rfl, trivial⟩ ?_
            have hs := x_step_cl (b := b) (n := n) (S := S) (u := u) (t := t2) c_108 c_115
            rw [h9] at hB
            exact ih (i + 1) false (x_fl 1 S u).1.tail (x_fl 1 S u).2 (t_nx b n t2) nm3 ep2 pd2 it3 _ (by omega) (hi.step hs) (by rw [x_run_l hs] at hx; exact hx) ⟨hkn, hk2.2⟩ (by have := x_fl_sk (r := 1) S u hsk2; rw [hfl] at this ⊢; exact this.tl) hit3 hB
      · refine g_aload_n (q := 78) dX0_sum_77 rfl rfl ?_
        refine g_aload_n (q := 79) dX0_sum_78 rfl rfl ?_
        refine g_aload_n (q := 80) dX0_sum_79 rfl rfl ?_
        refine gb_getf (q := 83) (j := 0) (i := 0) dX0_sum_80 rfl fl_X0_47 hB rfl rfl rfl rfl ?_
        refine g_callS (q := 86) dX0_sum_83 rfl ks_X0_135 rfl (c_rankOf (v := nI (kK t2))) (by decide) rfl (bz_le rfl) (by decide) (by decide) (fun r g1 hQ => ?_)
        obtain ⟨rfl, hg⟩ := hQ
        have hg := hg.symm
        subst hg
        refine g_eqi (v := nI (t_rk (kK t2))) (k_rk_c _ h256) ?_
        refine gb_callV (q := 89) (j := 0) (i := 0) dX0_sum_86 rfl kv_X0_139 (c_addPending (r0 := t_rk (kK t2)) (by have := t_rk_le (kK t2); omega) hi2.mem (by omega) (by omega) hsk2 hit2 (bz_W2 hB.1)) rfl (by decide) hB rfl rfl rfl rfl (bz_le rfl) (by decide) (by decide) (fun r g1 hQ => ?_)
        obtain ⟨rfl, it3, h1, hit3⟩ := hQ
        have hB := bz_B.two3 hB h1 ⟨rfl, rfl⟩
        have hfo := x_fl_ok (r := t_rk (kK t2)) c_74 S u hi2 hi.2.2.2.1
        have hfb := hfo.1.bnd (by have := hfo.2.2.1; omega)
        refine g_aload_n (q := 90) dX0_sum_89 rfl rfl ?_
        refine g_aload_n (q := 91) dX0_sum_90 rfl rfl ?_
        refine gb_getf (q := 94) (j := 0) (i := 0) dX0_sum_91 rfl fl_X0_47 hB rfl rfl rfl rfl ?_
        refine gb_callV (q := 97) (j := 0) (i := 0) dX0_sum_94 rfl kv_X0_143 (c_push (m := (x_fl (t_rk (kK t2)) S u).1.length) (v := nI (kK t2)) (by omega) (hB.1.at (j := 0) rfl)) rfl (by decide) hB rfl rfl rfl rfl (bz_le rfl) (by decide) (by decide) (fun r g1 hQ => ?_)
        obtain ⟨rfl, h1⟩ := hQ
        have hB := hB.sp (j := 0) rfl 0 rfl h1 (bz_le rfl)
        refine g_iconst (q := 98) (v := (nI 1)) dX0_sum_97 rfl (by decide) ?_
        refine g_istore_n (q := 99) rfl dX0_sum_98 rfl (by decide) rfl ?_
        refine g_goto (q := 128) dX0_sum_99 (by decide) ?_
        refine g_iload_n (q := 129) dX0_sum_128 rfl rfl ?_
        refine g_ifN_ne (q := 132) (t := 136) dX0_sum_129 rfl (by decide) (by omega) (fun c => absurd c (by omega)) (fun _ => ?_)
        refine g_aload_n (q := 133) dX0_sum_132 rfl rfl ?_
        refine gb_callV (q := 136) (j := 0) (i := 0) dX0_sum_133 rfl kv_X0_44 (c_step (p := kE t2) hb hn hd (hB.1.at (j := 2) rfl) (by omega) (hB.1.at (j := 0) rfl)) rfl (by decide) hB rfl rfl rfl rfl (bz_le rfl) (by decide) (by decide) (fun r g1 hQ => ?_)
        obtain ⟨rfl, t3, nm3, h1, rfl, hkn⟩ := hQ
        have hB := hB.sp (j := 0) rfl 0 rfl h1 (bz_le rfl)
        refine g_iincN (q := 139) (c := 1) dX0_sum_136 rfl (by decide) rfl rfl (by decide) ?_
        refine g_goto (q := 21) dX0_sum_139 (by decide) ?_
        refine g_lvs (lv1 := [(4, .int (nI (i + 1))), (2, .int (nI 1)), (3, .int (nI 0)), (0, .ref o), (1, .ref y)]) ⟨rfl, rfl, rfl, rfl, rfl, trivial⟩ ?_
        have hs := x_step_op (b := b) (n := n) (S := S) (u := u) (t := t2) c_74
        have h9 : x_open S = x_open (kK t2 :: (x_fl (t_rk (kK t2)) S u).1) := by
          rw [x_open_c, if_neg (fun q => by rw [q, t_rk_40] at c_74; omega), hfo.2.2.1]
          rfl
        rw [h9] at hB
        exact ih (i + 1) true (kK t2 :: (x_fl (t_rk (kK t2)) S u).1) (x_fl (t_rk (kK t2)) S u).2 (t_nx b n t2) nm3 ep2 _ it3 _ (by omega) (hi.step hs) (by rw [x_run_l hs] at hx; exact hx) ⟨hkn, hk2.2⟩ (x_fl_sk S u hsk2).push hit3 hB
  refine g_aload_n (q := 1) dX0_sum_0 rfl rfl ?_
  refine gb_callV (q := 4) (j := 1) (i := 0) dX0_sum_1 rfl kv_X0_121 (c_sclear (hB.1.at (j := 1) rfl)) rfl (by decide) hB rfl rfl rfl rfl (bz_le rfl) (by decide) (by decide) (fun r g1 hQ => ?_)
  obtain ⟨rfl, h1⟩ := hQ
  have hB := hB.sp (j := 1) rfl 0 rfl h1 (bz_le rfl)
  refine g_aload_n (q := 5) dX0_sum_4 rfl rfl ?_
  refine g_iconst (q := 6) (v := (nI 0)) dX0_sum_5 rfl (by decide) ?_
  refine gb_putf (q := 9) (j := 0) (i := 0) dX0_sum_6 rfl fp_X0_126 hB rfl rfl rfl (bz_le rfl) rfl rfl (fun g hB => ?_)
  refine g_aload_n (q := 10) dX0_sum_9 rfl rfl ?_
  refine g_iconst (q := 11) (v := (nI 0)) dX0_sum_10 rfl (by decide) ?_
  refine gb_putf (q := 14) (j := 0) (i := 0) dX0_sum_11 rfl fp_X0_129 hB rfl rfl rfl (bz_le rfl) rfl rfl (fun g hB => ?_)
  refine g_iconst (q := 15) (v := (nI 1)) dX0_sum_14 rfl (by decide) ?_
  refine g_istore_n (q := 16) rfl dX0_sum_15 rfl (by decide) rfl ?_
  refine g_iconst (q := 17) (v := (nI 0)) dX0_sum_16 rfl (by decide) ?_
  refine g_istore_n (q := 18) rfl dX0_sum_17 rfl (by decide) rfl ?_
  refine g_iconst (q := 19) (v := (nI 0)) dX0_sum_18 rfl (by decide) ?_
  refine g_istore (q := 21) dX0_sum_19 rfl (by decide) rfl ?_
  refine g_lvs (lv1 := [(4, .int (nI 0)), (2, .int (tB true)), (3, .int (nI 0)), (0, .ref o), (1, .ref y)]) ⟨rfl, rfl, rfl, rfl, rfl, trivial⟩ ?_
  exact K 601 0 true [] [] t nm ep pd it _ (by omega) ⟨ht, trivial, Nat.zero_le _, e_to.nil, Nat.zero_le _⟩ hR hk (fun j c h => by simp at h) (fun j c h => by simp at h) hB
set_option maxRecDepth 20000 in
set_option maxHeartbeats 1000000 in
theorem c_sum1 {l : Launch} {E : bz_E} {L : List Nat} {g : Nat → va_E} {o x n y : Nat} {b : Nat → Nat} {f0 pd v0 it : Nat → Int32} {t : Tok} {e : Nat × Nat} {nm ep hs ht1 pc op z : Int32} (hb : ∀ i, b i < 256) (hn : n ≤ 600) (hd : o + 3 ≤ x ∨ x + 1 ≤ o) (ht : t_is b n t) (he : e.1 ≠ 0) (hk : k_ok t e nm ep) (hW : bz_W L g [(o, (b_T E o x n (kE t) (kK t) (kS t) nm (nI e.1) ep hs ht1 f0 pd pc op)), (y, b_Sum E y v0 it z), (x, b_In E b)]) : bz_K l E mX0_sum 6 [.ref o, .ref y] L g (fun r g1 => r = none ∧ ∃ (ep1 : Int32) (it1 : Nat → Int32) (z1 pc1 op1 : Int32), bz_B L g g1 [(o, (b_T E o x n (kE t) (kK t) (kS t) nm (nI e.1) ep1 hs ht1 f0 pd pc1 op1)), (y, b_Sum E y v0 it1 z1)] ∧ k_ok t e nm ep1) := by
  refine bz_K.of (by decide) (bz_le rfl) (fun sz => ?_)
  show bz_G _ _ _ _ _ _ _ _ _ _ _ _ 0 [(0, .ref o), (1, .ref y)] []
  have hB := bz_B.rf hW
  have h4 := hk.2.2
  refine g_aload_n (q := 1) dX0_sum_0 rfl rfl ?_
  refine gb_callV (q := 4) (j := 1) (i := 0) dX0_sum_1 rfl kv_X0_121 (c_sclear (hB.1.at (j := 1) rfl)) rfl (by decide) hB rfl rfl rfl rfl (bz_le rfl) (by decide) (by decide) (fun r g1 hQ => ?_)
  obtain ⟨rfl, h1⟩ := hQ
  have hB := hB.sp (j := 1) rfl 0 rfl h1 (bz_le rfl)
  refine g_aload_n (q := 5) dX0_sum_4 rfl rfl ?_
  refine g_iconst (q := 6) (v := (nI 0)) dX0_sum_5 rfl (by decide) ?_
  refine gb_putf (q := 9) (j := 0) (i := 0) dX0_sum_6 rfl fp_X0_126 hB rfl rfl rfl (bz_le rfl) rfl rfl (fun g hB => ?_)
  refine g_aload_n (q := 10) dX0_sum_9 rfl rfl ?_
  refine g_iconst (q := 11) (v := (nI 0)) dX0_sum_10 rfl (by decide) ?_
  refine gb_putf (q := 14) (j := 0) (i := 0) dX0_sum_11 rfl fp_X0_129 hB rfl rfl rfl (bz_le rfl) rfl rfl (fun g hB => ?_)
  refine g_iconst (q := 15) (v := (nI 1)) dX0_sum_14 rfl (by decide) ?_
  refine g_istore_n (q := 16) rfl dX0_sum_15 rfl (by decide) rfl ?_
  refine g_iconst (q := 17) (v := (nI 0)) dX0_sum_16 rfl (by decide) ?_
  refine g_istore_n (q := 18) rfl dX0_sum_17 rfl (by decide) rfl ?_
  refine g_iconst (q := 19) (v := (nI 0)) dX0_sum_18 rfl (by decide) ?_
  refine g_istore (q := 21) dX0_sum_19 rfl (by decide) rfl ?_
  refine g_iload (q := 23) dX0_sum_21 rfl rfl ?_
  refine g_sipush (q := 26) (v := (nI 600)) dX0_sum_23 rfl (by decide) ?_
  refine g_icmpN_gt (q := 29) (t := 142) dX0_sum_26 rfl (by decide) (by omega) (by omega) (fun c => absurd c (by omega)) (fun _ => ?_)
  refine g_aload_n (q := 30) dX0_sum_29 rfl rfl ?_
  refine gb_getf (q := 33) (j := 0) (i := 0) dX0_sum_30 rfl fl_X0_26 hB rfl rfl rfl rfl ?_
  refine g_ifN_ne (q := 36) (t := 142) dX0_sum_33 rfl (by decide) (by omega) (fun _ => ?_) (fun c => absurd c (by omega))
  refine g_aload_n (q := 143) dX0_sum_142 rfl rfl ?_
  refine gb_getf (q := 146) (j := 0) (i := 0) dX0_sum_143 rfl fl_X0_129 hB rfl rfl rfl rfl ?_
  refine g_eqi (v := nI (0)) (rfl) ?_
  refine g_ifN_le (q := 149) (t := 154) dX0_sum_146 rfl (by decide) (by omega) (fun _ => ?_) (fun c => absurd c (by omega))
  refine g_aload_n (q := 155) dX0_sum_154 rfl rfl ?_
  refine g_aload_n (q := 156) dX0_sum_155 rfl rfl ?_
  refine g_iconst (q := 157) (v := (nI 1)) dX0_sum_156 rfl (by decide) ?_
  refine gb_callV (q := 160) (j := 0) (i := 0) dX0_sum_157 rfl kv_X0_139 (c_addPending (r0 := 1) (S := []) (u := []) (by omega) (fun c h => by cases h) (by decide) (by decide) (fun j c h => by simp at h) (fun j c h => by simp at h) (bz_W2 hB.1)) rfl (by decide) hB rfl rfl rfl rfl (bz_le rfl) (by decide) (by decide) (fun r g1 hQ => ?_)
  obtain ⟨rfl, it3, h1, hit3⟩ := hQ
  have hB := bz_B.two3 hB h1 ⟨rfl, rfl⟩
  exact g_vret dX0_sum_160 rfl (⟨rfl, ep, it3, _, _, _, bz_B.last (bs := [_, _]) hB (hW.1 (x, b_In E b) (List.mem_cons_of_mem _ (List.mem_cons_of_mem _ List.mem_cons_self))), hk⟩)
