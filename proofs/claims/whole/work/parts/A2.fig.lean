/-! figures: waits, utilisation, the bits of a ratio -/
def f_w (w n : Nat) : UInt32 := if n = 0 then 0 else FP.fdiv (FP.i2f (nI w)) (FP.i2f (nI n))
def d_u (n t : Nat) : UInt64 := if t = 0 then 0 else FP.ddiv (FP.i2d (nI n)) (FP.i2d (nI t))
/-- nothing, or a normal number of a size -/
def f_z (a b : Int) (x : UInt32) : Prop := x = 0 ∨ ∃ (c : Nat) (q : Int), f_nm x c q ∧ a ≤ q ∧ q ≤ b
def d_z (x : UInt64) : Prop := x = 0 ∨ ∃ (c : Nat) (q : Int), d_nm x c q
theorem f_z.n32 {a b : Int} {x : UInt32} (h : f_z a b x) : vf_n32 x := by
  rcases h with rfl | ⟨c, q, h, -⟩
  · exact f_n0
  · exact h.n32
theorem d_z.n64 {x : UInt64} (h : d_z x) : vf_n64 x := by
  rcases h with rfl | ⟨c, q, h⟩
  · exact d_n0
  · exact h.n64
theorem f_w_div {w n : Nat} (hw : w < 2147483648) (hn : n < 2147483648) (h0 : 0 < n) : f_z (-55) 9 (FP.fdiv (FP.i2f (nI w)) (FP.i2f (nI n))) := by
  obtain ⟨d, r, hd, r1, r2⟩ := f_ofi h0 hn
  rcases Nat.eq_zero_or_pos w with rfl | hw0
  · rw [f_ofi0, f_div0 hd]
    exact Or.inl rfl
  · obtain ⟨c, q, hc, q1, q2⟩ := f_ofi hw0 hw
    obtain ⟨c1, q3, h1, h2, h3⟩ := f_div hc hd (by omega) (by omega)
    exact Or.inr ⟨c1, q3, h1, by omega, by omega⟩
theorem f_w_z {w n : Nat} (hw : w < 2147483648) (hn : n < 2147483648) : f_z (-55) 9 (f_w w n) := by
  unfold f_w
  by_cases h : n = 0
  · rw [if_pos h]; exact Or.inl rfl
  · rw [if_neg h]; exact f_w_div hw hn (by omega)
theorem d_u_div {n t : Nat} (hn : n < 2147483648) (ht : t < 2147483648) (h0 : 0 < t) : d_z (FP.ddiv (FP.i2d (nI n)) (FP.i2d (nI t))) := by
  obtain ⟨d, r, hd, r1, r2⟩ := d_ofi h0 ht
  rcases Nat.eq_zero_or_pos n with rfl | hw0
  · rw [d_ofi0, d_div0 hd]
    exact Or.inl rfl
  · obtain ⟨c, q, hc, q1, q2⟩ := d_ofi hw0 hn
    obtain ⟨c1, q3, h1, h2, h3⟩ := d_div hc hd (by omega) (by omega)
    exact Or.inr ⟨c1, q3, h1⟩
theorem d_u_z {n t : Nat} (hn : n < 2147483648) (ht : t < 2147483648) : d_z (d_u n t) := by
  unfold d_u
  by_cases h : t = 0
  · rw [if_pos h]; exact Or.inl rfl
  · rw [if_neg h]; exact d_u_div hn ht (by omega)
theorem f_r_z {x y : UInt32} (hx : f_z (-55) 9 x) (hy : f_z (-55) 9 y) (h0 : y ≠ 0) : f_z (-90) 50 (FP.fdiv x y) := by
  rcases hy with rfl | ⟨d, r, hd, r1, r2⟩
  · exact absurd rfl h0
  · rcases hx with rfl | ⟨c, q, hc, q1, q2⟩
    · rw [f_div0 hd]; exact Or.inl rfl
    · obtain ⟨c1, q3, h1, h2, h3⟩ := f_div hc hd (by omega) (by omega)
      exact Or.inr ⟨c1, q3, h1, by omega, by omega⟩
theorem f_z.ne0 {a b : Int} {x : UInt32} (h : f_z a b x) (h0 : x ≠ 0) : FP.fcmp x 0 = some .gt := by
  rcases h with rfl | ⟨c, q, h, -⟩
  · exact absurd rfl h0
  · exact f_cmp0 h
theorem f_z.cmps {a b : Int} {x : UInt32} (h : f_z a b x) : FP.fcmp x x = some .eq := by
  rcases h with rfl | ⟨c, q, h, -⟩
  · exact f_cmp00
  · exact f_cmps h
theorem d_z.cmps {x : UInt64} (h : d_z x) : FP.dcmp x x = some .eq := by
  rcases h with rfl | ⟨c, q, h⟩
  · exact d_cmp00
  · exact d_cmps h
theorem f_z.d {a b : Int} {x : UInt32} (h : f_z a b x) : d_z (FP.f2d x) := by
  rcases h with rfl | ⟨c, q, h, -⟩
  · rw [d_of_f0]; exact Or.inl rfl
  · obtain ⟨c1, q1, h1⟩ := d_of_f h; exact Or.inr ⟨c1, q1, h1⟩
def f_rb (x y : UInt32) : Int32 := if y = 0 then nI 0 else (FP.fdiv x y).toInt32
def iI (z : Int) : Int32 := Int32.ofInt z
theorem iI_p (z : Int) : iI z + Int32.ofInt 1 = iI (z + 1) := (Int32.ofInt_add z 1).symm
theorem iI_m (z : Int) : iI z + Int32.ofInt (-1) = iI (z - 1) := by
  rw [Int.sub_eq_add_neg]
  exact (Int32.ofInt_add z (-1)).symm
theorem f_or {B f : Nat} (hB : B < 256) (hf : f < 2 ^ 23) : (B <<< 23) % 2 ^ 32 ||| f = B * 2 ^ 23 + f := by
  rw [Nat.mod_eq_of_lt (by rw [Nat.shiftLeft_eq]; omega), ← Nat.shiftLeft_add_eq_or_of_lt hf, Nat.shiftLeft_eq]
theorem f_bv {B f : Nat} (hB : B < 256) (hf : f < 2 ^ 23) : (((nI B) <<< (nI 23 &&& 31)) ||| nI f).toBitVec.toNat = B * 2 ^ 23 + f := by
  rw [Int32.toBitVec_or, Int32.toBitVec_shiftLeft, BitVec.toNat_or, show (nI 23 &&& 31).toBitVec.smod 32 = 23#32 from by decide]
  have b0 : ∀ B : Nat, B < 2 ^ 31 → (nI B).toBitVec.toNat = B := fun B h => by
    show (BitVec.ofInt 32 (B : Int)).toNat = B
    rw [BitVec.toNat_ofInt]
    omega
  have b4 : (nI B).toBitVec <<< 23#32 = (nI B).toBitVec <<< (23 : Nat) := rfl
  rw [b4, BitVec.toNat_shiftLeft, b0 B (by omega), b0 f (by omega)]
  exact f_or hB hf
theorem f_bits {x : UInt32} {c : Nat} {q : Int} (h : f_nm x c q) : ((iI (q + 23) + nI 127) <<< (nI 23 &&& 31)) ||| nI (c - 8388608) = x.toInt32 := by
  obtain ⟨h0, h1, h2, h3, h4⟩ := h
  unfold f_en at h0
  obtain ⟨B, hB⟩ : ∃ B : Nat, B = (q + 149).toNat + 1 := ⟨_, rfl⟩
  obtain ⟨f, hf⟩ : ∃ f : Nat, f = c - 8388608 := ⟨_, rfl⟩
  have e1 : iI (q + 23) + nI 127 = nI B := by
    have e2 : iI (q + 23) + nI 127 = iI (q + 23 + 127) := (Int32.ofInt_add (q + 23) 127).symm
    rw [e2, show q + 23 + 127 = (B : Int) by omega]
    rfl
  rw [← hB, ← hf] at h0
  rw [e1, ← hf]
  apply Int32.toBitVec_inj.mp
  apply BitVec.eq_of_toNat_eq
  rw [f_bv (by omega) (by omega)]
  have b3 : (x.toInt32).toBitVec.toNat = x.toNat := rfl
  rw [b3, h0]

set_option maxRecDepth 20000 in
set_option maxHeartbeats 1000000 in
theorem c8_waitOf0 {l : Launch} {E : bz_E} {L : List Nat} {g : Nat → va_E} {o p q : Nat} {n er v0 v1 : Int32} {rp : PLR} {rS : SR} {σ : Si} {D : Pl} (hn : (s_sd 0 σ).2.2.2.2.1 < 2147483648) (hw : (s_sd 0 σ).2.2.2.2.2.2 < 2147483648) (hr : s_srep rS σ) (hD : d_rep rp D) (hW : bz_W L g [(o, w_obj o p q n er v0 v1), (p, b_PL E p rp), (o + 27, b_Sit E (o + 27) rS)]) : bz_K l E mX8_waitOf 0 [.ref (o + 27 + 1)] L g (fun r g1 => r = some (.float (f_w (s_sd 0 σ).2.2.2.2.2.2 (s_sd 0 σ).2.2.2.2.1)) ∧ g1 = g) := by
  refine bz_K.of (by decide) (bz_le rfl) (fun sz => ?_)
  have hB := bz_B.rf hW
  show bz_G _ _ _ _ _ _ _ _ _ _ _ _ 0 [(0, .ref (o + 27 + 1))] []
  refine g_aload_n (q := 1) dX8_waitOf_0 rfl rfl ?_
  refine gb_getf (q := 4) (j := 2) (i := 1) dX8_waitOf_1 rfl fl_X8_190 hB rfl rfl rfl rfl ?_
  refine g_eqi (v := nI (σ.2.1.2.2.2.2.1)) (hr.2.1.2.2.2.2.2.2.2.2.1) ?_
  refine g_ifN_gt (q := 7) (t := 9) dX8_waitOf_4 rfl (by decide) hn (fun c_4 => ?_) (fun c_4 => ?_)
  · refine g_aload_n (q := 10) dX8_waitOf_9 rfl rfl ?_
    refine gb_getf (q := 13) (j := 2) (i := 1) dX8_waitOf_10 rfl fl_X8_204 hB rfl rfl rfl rfl ?_
    refine g_eqi (v := nI (σ.2.1.2.2.2.2.2.2)) (hr.2.1.2.2.2.2.2.2.2.2.2.2) ?_
    refine g_i2f (q := 14) dX8_waitOf_13 rfl ?_
    refine g_aload_n (q := 15) dX8_waitOf_14 rfl rfl ?_
    refine gb_getf (q := 18) (j := 2) (i := 1) dX8_waitOf_15 rfl fl_X8_190 hB rfl rfl rfl rfl ?_
    refine g_eqi (v := nI (σ.2.1.2.2.2.2.1)) (hr.2.1.2.2.2.2.2.2.2.2.1) ?_
    refine g_i2f (q := 19) dX8_waitOf_18 rfl ?_
    refine g_fdiv (q := 20) dX8_waitOf_19 rfl (f_w_div hw hn c_4).n32 ?_
    exact g_fret dX8_waitOf_20 rfl (⟨by unfold f_w; rw [if_neg (show ¬ (s_sd 0 σ).2.2.2.2.1 = 0 from Nat.pos_iff_ne_zero.mp c_4)]; rfl, rfl⟩)
  · refine g_fconst0 (q := 8) dX8_waitOf_7 rfl ?_
    exact g_fret dX8_waitOf_8 rfl (⟨by unfold f_w; rw [if_pos (show (s_sd 0 σ).2.2.2.2.1 = 0 from c_4)], rfl⟩)
set_option maxRecDepth 20000 in
set_option maxHeartbeats 1000000 in
theorem c8_waitOf1 {l : Launch} {E : bz_E} {L : List Nat} {g : Nat → va_E} {o p q : Nat} {n er v0 v1 : Int32} {rp : PLR} {rS : SR} {σ : Si} {D : Pl} (hn : (s_sd 1 σ).2.2.2.2.1 < 2147483648) (hw : (s_sd 1 σ).2.2.2.2.2.2 < 2147483648) (hr : s_srep rS σ) (hD : d_rep rp D) (hW : bz_W L g [(o, w_obj o p q n er v0 v1), (p, b_PL E p rp), (o + 27, b_Sit E (o + 27) rS)]) : bz_K l E mX8_waitOf 0 [.ref (o + 27 + 14)] L g (fun r g1 => r = some (.float (f_w (s_sd 1 σ).2.2.2.2.2.2 (s_sd 1 σ).2.2.2.2.1)) ∧ g1 = g) := by
  refine bz_K.of (by decide) (bz_le rfl) (fun sz => ?_)
  have hB := bz_B.rf hW
  show bz_G _ _ _ _ _ _ _ _ _ _ _ _ 0 [(0, .ref (o + 27 + 14))] []
  refine g_aload_n (q := 1) dX8_waitOf_0 rfl rfl ?_
  refine gb_getf (q := 4) (j := 2) (i := 14) dX8_waitOf_1 rfl fl_X8_190 hB rfl rfl rfl rfl ?_
  refine g_eqi (v := nI (σ.2.2.2.2.2.2.1)) (hr.2.2.2.2.2.2.2.2.2.2.1) ?_
  refine g_ifN_gt (q := 7) (t := 9) dX8_waitOf_4 rfl (by decide) hn (fun c_4 => ?_) (fun c_4 => ?_)
  · refine g_aload_n (q := 10) dX8_waitOf_9 rfl rfl ?_
    refine gb_getf (q := 13) (j := 2) (i := 14) dX8_waitOf_10 rfl fl_X8_204 hB rfl rfl rfl rfl ?_
    refine g_eqi (v := nI (σ.2.2.2.2.2.2.2.2)) (hr.2.2.2.2.2.2.2.2.2.2.2.2) ?_
    refine g_i2f (q := 14) dX8_waitOf_13 rfl ?_
    refine g_aload_n (q := 15) dX8_waitOf_14 rfl rfl ?_
    refine gb_getf (q := 18) (j := 2) (i := 14) dX8_waitOf_15 rfl fl_X8_190 hB rfl rfl rfl rfl ?_
    refine g_eqi (v := nI (σ.2.2.2.2.2.2.1)) (hr.2.2.2.2.2.2.2.2.2.2.1) ?_
    refine g_i2f (q := 19) dX8_waitOf_18 rfl ?_
    refine g_fdiv (q := 20) dX8_waitOf_19 rfl (f_w_div hw hn c_4).n32 ?_
    exact g_fret dX8_waitOf_20 rfl (⟨by unfold f_w; rw [if_neg (show ¬ (s_sd 1 σ).2.2.2.2.1 = 0 from Nat.pos_iff_ne_zero.mp c_4)]; rfl, rfl⟩)
  · refine g_fconst0 (q := 8) dX8_waitOf_7 rfl ?_
    exact g_fret dX8_waitOf_8 rfl (⟨by unfold f_w; rw [if_pos (show (s_sd 1 σ).2.2.2.2.1 = 0 from c_4)], rfl⟩)
set_option maxRecDepth 20000 in
set_option maxHeartbeats 1000000 in
theorem c8_averageWait1 {l : Launch} {E : bz_E} {L : List Nat} {g : Nat → va_E} {o : Nat} {v : Int32} (hl : l.stackTraces = false) (hb : m_bad v 2 = true) : bz_KX l E mX8_averageWait 7 [.ref o, .int v] L g x_IOE := by
  refine bz_KX.of (by decide) (bz_le rfl) (fun sz => ?_)
  show bz_G _ _ _ _ _ _ _ _ _ _ _ _ 0 [(0, .ref o), (1, .int v)] []
  refine g_iload_n (q := 1) dX8_averageWait_0 rfl rfl ?_
  exact g_callSX dX8_averageWait_1 (by decide +kernel) ks_X8_116 rfl (c8_checkSide1 hl hb) (by decide) rfl (bz_le rfl)
set_option maxRecDepth 20000 in
set_option maxHeartbeats 1000000 in
theorem c8_averageWait0 {l : Launch} {E : bz_E} {L : List Nat} {g : Nat → va_E} {o p q : Nat} {n er v0 v1 : Int32} {rp : PLR} {rS : SR} {σ : Si} {D : Pl} {s : Nat} (hs : s < 2) (hn : ∀ s, s < 2 → (s_sd s σ).2.2.2.2.1 < 2147483648) (hw : ∀ s, s < 2 → (s_sd s σ).2.2.2.2.2.2 < 2147483648) (hr : s_srep rS σ) (hD : d_rep rp D) (hW : bz_W L g [(o, w_obj o p q n er v0 v1), (p, b_PL E p rp), (o + 27, b_Sit E (o + 27) rS)]) : bz_K l E mX8_averageWait 1 [.ref o, .int (nI s)] L g (fun r g1 => r = some (.float (f_w (s_sd s σ).2.2.2.2.2.2 (s_sd s σ).2.2.2.2.1)) ∧ g1 = g) := by
  refine bz_K.of (by decide) (bz_le rfl) (fun sz => ?_)
  have hB := bz_B.rf hW
  show bz_G _ _ _ _ _ _ _ _ _ _ _ _ 0 [(0, .ref o), (1, .int (nI s))] []
  rcases (show s = 0 ∨ s = 1 by omega) with rfl | rfl
  · refine g_iload_n (q := 1) dX8_averageWait_0 rfl rfl ?_
    refine g_callS (q := 4) dX8_averageWait_1 rfl ks_X8_116 rfl (c8_checkSide0 hs) (by decide) rfl (bz_le rfl) (by decide) (by decide) (fun r g1 hQ => ?_)
    obtain ⟨rfl, hg⟩ := hQ
    have hg := hg.symm
    subst hg
    refine g_aload_n (q := 5) dX8_averageWait_4 rfl rfl ?_
    refine gb_getf (q := 8) (j := 0) (i := 0) dX8_averageWait_5 rfl fl_X8_33 hB rfl rfl rfl rfl ?_
    refine g_iload_n (q := 9) dX8_averageWait_8 rfl rfl ?_
    refine gb_callV (q := 12) (j := 2) (i := 0) dX8_averageWait_9 rfl kv_X8_119 (c_portOf0 (hB.1.at (j := 2) rfl)) rfl (by decide) hB rfl rfl rfl rfl (bz_le rfl) (by decide) (by decide) (fun r g1 hQ => ?_)
    obtain ⟨rfl, hg⟩ := hQ
    have hg := hg.symm
    subst hg
    refine g_callS (q := 15) dX8_averageWait_12 rfl ks_X8_196 rfl (c8_waitOf0 (hn 0 (by decide)) (hw 0 (by decide)) hr hD hB.1) (by decide) rfl (bz_le rfl) (by decide) (by decide) (fun r g1 hQ => ?_)
    obtain ⟨rfl, hg⟩ := hQ
    have hg := hg.symm
    subst hg
    exact g_fret dX8_averageWait_15 rfl (⟨rfl, rfl⟩)
  · refine g_iload_n (q := 1) dX8_averageWait_0 rfl rfl ?_
    refine g_callS (q := 4) dX8_averageWait_1 rfl ks_X8_116 rfl (c8_checkSide0 hs) (by decide) rfl (bz_le rfl) (by decide) (by decide) (fun r g1 hQ => ?_)
    obtain ⟨rfl, hg⟩ := hQ
    have hg := hg.symm
    subst hg
    refine g_aload_n (q := 5) dX8_averageWait_4 rfl rfl ?_
    refine gb_getf (q := 8) (j := 0) (i := 0) dX8_averageWait_5 rfl fl_X8_33 hB rfl rfl rfl rfl ?_
    refine g_iload_n (q := 9) dX8_averageWait_8 rfl rfl ?_
    refine gb_callV (q := 12) (j := 2) (i := 0) dX8_averageWait_9 rfl kv_X8_119 (c_portOf1 (hB.1.at (j := 2) rfl)) rfl (by decide) hB rfl rfl rfl rfl (bz_le rfl) (by decide) (by decide) (fun r g1 hQ => ?_)
    obtain ⟨rfl, hg⟩ := hQ
    have hg := hg.symm
    subst hg
    refine g_callS (q := 15) dX8_averageWait_12 rfl ks_X8_196 rfl (c8_waitOf1 (hn 1 (by decide)) (hw 1 (by decide)) hr hD hB.1) (by decide) rfl (bz_le rfl) (by decide) (by decide) (fun r g1 hQ => ?_)
    obtain ⟨rfl, hg⟩ := hQ
    have hg := hg.symm
    subst hg
    exact g_fret dX8_averageWait_15 rfl (⟨rfl, rfl⟩)
set_option maxRecDepth 20000 in
set_option maxHeartbeats 1000000 in
theorem c8_utilisation1 {l : Launch} {E : bz_E} {L : List Nat} {g : Nat → va_E} {o : Nat} {v : Int32} (hl : l.stackTraces = false) (hb : m_bad v 2 = true) : bz_KX l E mX8_utilisation 7 [.ref o, .int v] L g x_IOE := by
  refine bz_KX.of (by decide) (bz_le rfl) (fun sz => ?_)
  show bz_G _ _ _ _ _ _ _ _ _ _ _ _ 0 [(0, .ref o), (1, .int v)] []
  refine g_iload_n (q := 1) dX8_utilisation_0 rfl rfl ?_
  exact g_callSX dX8_utilisation_1 (by decide +kernel) ks_X8_116 rfl (c8_checkSide1 hl hb) (by decide) rfl (bz_le rfl)
set_option maxRecDepth 20000 in
set_option maxHeartbeats 1000000 in
theorem c8_utilisation0 {l : Launch} {E : bz_E} {L : List Nat} {g : Nat → va_E} {o p q : Nat} {n er v0 v1 : Int32} {rp : PLR} {rS : SR} {σ : Si} {D : Pl} {s : Nat} (hs : s < 2) (ht : σ.1 < 2147483648) (hn : ∀ s, s < 2 → (s_sd s σ).2.2.2.2.1 < 2147483648) (hw : ∀ s, s < 2 → (s_sd s σ).2.2.2.2.2.2 < 2147483648) (hr : s_srep rS σ) (hD : d_rep rp D) (hW : bz_W L g [(o, w_obj o p q n er v0 v1), (p, b_PL E p rp), (o + 27, b_Sit E (o + 27) rS)]) : bz_K l E mX8_utilisation 1 [.ref o, .int (nI s)] L g (fun r g1 => r = some (.double (d_u (s_sd s σ).2.2.2.2.1 σ.1)) ∧ g1 = g) := by
  refine bz_K.of (by decide) (bz_le rfl) (fun sz => ?_)
  have hB := bz_B.rf hW
  show bz_G _ _ _ _ _ _ _ _ _ _ _ _ 0 [(0, .ref o), (1, .int (nI s))] []
  rcases (show s = 0 ∨ s = 1 by omega) with rfl | rfl
  · refine g_iload_n (q := 1) dX8_utilisation_0 rfl rfl ?_
    refine g_callS (q := 4) dX8_utilisation_1 rfl ks_X8_116 rfl (c8_checkSide0 hs) (by decide) rfl (bz_le rfl) (by decide) (by decide) (fun r g1 hQ => ?_)
    obtain ⟨rfl, hg⟩ := hQ
    have hg := hg.symm
    subst hg
    refine g_aload_n (q := 5) dX8_utilisation_4 rfl rfl ?_
    refine gb_getf (q := 8) (j := 0) (i := 0) dX8_utilisation_5 rfl fl_X8_33 hB rfl rfl rfl rfl ?_
    refine gb_getf (q := 11) (j := 2) (i := 0) dX8_utilisation_8 rfl fl_X8_98 hB rfl rfl rfl rfl ?_
    refine g_eqi (v := nI (σ.1)) (hr.1) ?_
    refine g_ifN_gt (q := 14) (t := 16) dX8_utilisation_11 rfl (by decide) ht (fun c_11 => ?_) (fun c_11 => ?_)
    · refine g_aload_n (q := 17) dX8_utilisation_16 rfl rfl ?_
      refine gb_getf (q := 20) (j := 0) (i := 0) dX8_utilisation_17 rfl fl_X8_33 hB rfl rfl rfl rfl ?_
      refine g_iload_n (q := 21) dX8_utilisation_20 rfl rfl ?_
      refine gb_callV (q := 24) (j := 2) (i := 0) dX8_utilisation_21 rfl kv_X8_119 (c_portOf0 (hB.1.at (j := 2) rfl)) rfl (by decide) hB rfl rfl rfl rfl (bz_le rfl) (by decide) (by decide) (fun r g1 hQ => ?_)
      obtain ⟨rfl, hg⟩ := hQ
      have hg := hg.symm
      subst hg
      refine gb_getf (q := 27) (j := 2) (i := 1) dX8_utilisation_24 rfl fl_X8_190 hB rfl rfl rfl rfl ?_
      refine g_eqi (v := nI (σ.2.1.2.2.2.2.1)) (hr.2.1.2.2.2.2.2.2.2.2.1) ?_
      refine g_i2d (q := 28) dX8_utilisation_27 rfl ?_
      refine g_aload_n (q := 29) dX8_utilisation_28 rfl rfl ?_
      refine gb_getf (q := 32) (j := 0) (i := 0) dX8_utilisation_29 rfl fl_X8_33 hB rfl rfl rfl rfl ?_
      refine gb_getf (q := 35) (j := 2) (i := 0) dX8_utilisation_32 rfl fl_X8_98 hB rfl rfl rfl rfl ?_
      refine g_eqi (v := nI (σ.1)) (hr.1) ?_
      refine g_i2d (q := 36) dX8_utilisation_35 rfl ?_
      refine g_ddiv (q := 37) dX8_utilisation_36 rfl (d_u_div (hn 0 (by decide)) ht c_11).n64 ?_
      exact g_dret dX8_utilisation_37 rfl (⟨by unfold d_u; rw [if_neg (show ¬ σ.1 = 0 from Nat.pos_iff_ne_zero.mp c_11)]; rfl, rfl⟩)
    · refine g_dconst0 (q := 15) dX8_utilisation_14 rfl ?_
      exact g_dret dX8_utilisation_15 rfl (⟨by unfold d_u; rw [if_pos c_11], rfl⟩)
  · refine g_iload_n (q := 1) dX8_utilisation_0 rfl rfl ?_
    refine g_callS (q := 4) dX8_utilisation_1 rfl ks_X8_116 rfl (c8_checkSide0 hs) (by decide) rfl (bz_le rfl) (by decide) (by decide) (fun r g1 hQ => ?_)
    obtain ⟨rfl, hg⟩ := hQ
    have hg := hg.symm
    subst hg
    refine g_aload_n (q := 5) dX8_utilisation_4 rfl rfl ?_
    refine gb_getf (q := 8) (j := 0) (i := 0) dX8_utilisation_5 rfl fl_X8_33 hB rfl rfl rfl rfl ?_
    refine gb_getf (q := 11) (j := 2) (i := 0) dX8_utilisation_8 rfl fl_X8_98 hB rfl rfl rfl rfl ?_
    refine g_eqi (v := nI (σ.1)) (hr.1) ?_
    refine g_ifN_gt (q := 14) (t := 16) dX8_utilisation_11 rfl (by decide) ht (fun c_11 => ?_) (fun c_11 => ?_)
    · refine g_aload_n (q := 17) dX8_utilisation_16 rfl rfl ?_
      refine gb_getf (q := 20) (j := 0) (i := 0) dX8_utilisation_17 rfl fl_X8_33 hB rfl rfl rfl rfl ?_
      refine g_iload_n (q := 21) dX8_utilisation_20 rfl rfl ?_
      refine gb_callV (q := 24) (j := 2) (i := 0) dX8_utilisation_21 rfl kv_X8_119 (c_portOf1 (hB.1.at (j := 2) rfl)) rfl (by decide) hB rfl rfl rfl rfl (bz_le rfl) (by decide) (by decide) (fun r g1 hQ => ?_)
      obtain ⟨rfl, hg⟩ := hQ
      have hg := hg.symm
      subst hg
      refine gb_getf (q := 27) (j := 2) (i := 14) dX8_utilisation_24 rfl fl_X8_190 hB rfl rfl rfl rfl ?_
      refine g_eqi (v := nI (σ.2.2.2.2.2.2.1)) (hr.2.2.2.2.2.2.2.2.2.2.1) ?_
      refine g_i2d (q := 28) dX8_utilisation_27 rfl ?_
      refine g_aload_n (q := 29) dX8_utilisation_28 rfl rfl ?_
      refine gb_getf (q := 32) (j := 0) (i := 0) dX8_utilisation_29 rfl fl_X8_33 hB rfl rfl rfl rfl ?_
      refine gb_getf (q := 35) (j := 2) (i := 0) dX8_utilisation_32 rfl fl_X8_98 hB rfl rfl rfl rfl ?_
      refine g_eqi (v := nI (σ.1)) (hr.1) ?_
      refine g_i2d (q := 36) dX8_utilisation_35 rfl ?_
      refine g_ddiv (q := 37) dX8_utilisation_36 rfl (d_u_div (hn 1 (by decide)) ht c_11).n64 ?_
      exact g_dret dX8_utilisation_37 rfl (⟨by unfold d_u; rw [if_neg (show ¬ σ.1 = 0 from Nat.pos_iff_ne_zero.mp c_11)]; rfl, rfl⟩)
    · refine g_dconst0 (q := 15) dX8_utilisation_14 rfl ?_
      exact g_dret dX8_utilisation_15 rfl (⟨by unfold d_u; rw [if_pos c_11], rfl⟩)
set_option maxRecDepth 20000 in
set_option maxHeartbeats 1000000 in
theorem c8_bitsOf {l : Launch} {E : bz_E} {L : List Nat} {g : Nat → va_E} {x : UInt32} (hx : f_z (-90) 50 x) : bz_K l E mX8_bitsOf 0 [.float x] L g (fun r g1 => r = some (.int x.toInt32) ∧ g1 = g) := by
  refine bz_K.of (by decide) (bz_le rfl) (fun sz => ?_)
  show bz_G _ _ _ _ _ _ _ _ _ _ _ _ 0 [(0, .float x)] []
  rcases hx with rfl | ⟨c, q, hx, hq1, hq2⟩
  · refine g_fload_n (q := 1) dX8_bitsOf_0 rfl rfl ?_
    refine g_fconst0 (q := 2) dX8_bitsOf_1 rfl ?_
    refine g_fcmp (q := 3) dX8_bitsOf_2 rfl ?_
    refine g_eqi (v := 0) (by rw [f_cmp00]; rfl) ?_
    refine g_if_gt (q := 6) (t := 8) dX8_bitsOf_3 rfl (by decide) (fun c => absurd c (by decide)) (fun _ => ?_)
    refine g_iconst (q := 7) (v := (nI 0)) dX8_bitsOf_6 rfl (by decide) ?_
    exact g_iret dX8_bitsOf_7 rfl (⟨rfl, rfl⟩)
  ·
    have K2 : ∀ (m j : Nat) (y : UInt32) (e : Int), (q + 23 - e).natAbs = m → e = q + 23 + (m : Int) → j + m ≤ 127 → f_nm y c (q - e) → bz_G l E mX8_bitsOf (bz_R 0 0 0) L sz (bz_Fm E L sz (fun r g1 => r = some (.int x.toInt32) ∧ g1 = g)) sz 0 0 L g 42 [(3, .int (nI j)), (2, .int (iI e)), (1, .float y), (0, .float x)] [] := by
      intro m
      induction m with
      | zero =>
        intro j y e hm he hj hy
        have he : e = q + 23 := by omega
        subst he
        rw [show q - (q + 23) = -23 by omega] at hy
        have hfr := f_frac hy
        have hge : (0 : Int32) ≤ Op.cmpValue (FP.fcmp y 1065353216) .g := by
          rcases (f_cmp (y := 1065353216) (r := -23) hy (by decide)).2 (by omega) with e1 | e1 <;> rw [e1] <;> decide
        refine g_iload_n (q := 43) dX8_bitsOf_42 rfl rfl ?_
        refine g_sipush (q := 46) (v := (nI 128)) dX8_bitsOf_43 rfl (by decide) ?_
        refine g_icmpN_ge (q := 49) (t := 68) dX8_bitsOf_46 rfl (by decide) (by omega) (by omega) (fun c => absurd c (by omega)) (fun _ => ?_)
        refine g_fload_n (q := 50) dX8_bitsOf_49 rfl rfl ?_
        refine g_fconst1 (q := 51) dX8_bitsOf_50 rfl ?_
        refine g_fcmp (q := 52) dX8_bitsOf_51 rfl ?_
        refine g_if_ge (q := 55) (t := 68) dX8_bitsOf_52 rfl (by decide) (fun _ => ?_) (fun c => absurd (hge) c)
        refine g_fload_n (q := 69) dX8_bitsOf_68 rfl rfl ?_
        refine g_fconst1 (q := 70) dX8_bitsOf_69 rfl ?_
        refine g_fsub (q := 71) dX8_bitsOf_70 rfl hfr.1 ?_
        refine g_ldcf (q := 73) (v := 1258291200) dX8_bitsOf_71 rfl (bz_mw 464 (by decide +kernel)) ?_
        refine g_fmul (q := 74) dX8_bitsOf_73 rfl hfr.2.1 ?_
        refine g_f2i (q := 75) dX8_bitsOf_74 rfl ?_
        refine g_eqi (v := nI (c - 8388608)) (hfr.2.2) ?_
        refine g_istore_n (q := 76) rfl dX8_bitsOf_75 rfl (by decide) rfl ?_
        refine g_iload_n (q := 77) dX8_bitsOf_76 rfl rfl ?_
        refine g_bipush (q := 79) (v := (nI 127)) dX8_bitsOf_77 rfl (by decide) ?_
        refine g_iadd (q := 80) dX8_bitsOf_79 rfl ?_
        refine g_bipush (q := 82) (v := (nI 23)) dX8_bitsOf_80 rfl (by decide) ?_
        refine g_ishl (q := 83) dX8_bitsOf_82 rfl ?_
        refine g_iload_n (q := 84) dX8_bitsOf_83 rfl rfl ?_
        refine g_ior (q := 85) dX8_bitsOf_84 rfl ?_
        exact g_iret dX8_bitsOf_85 rfl (⟨by rw [f_bits hx], rfl⟩)
      | succ m ih =>
        intro j y e hm he hj hy
        have hlt : ¬ (0 : Int32) ≤ Op.cmpValue (FP.fcmp y 1065353216) .g := by
          rw [(f_cmp (y := 1065353216) (r := -23) hy (by decide)).1 (by omega)]; decide
        have hdb := f_dbl hy (by omega)
        refine g_iload_n (q := 43) dX8_bitsOf_42 rfl rfl ?_
        refine g_sipush (q := 46) (v := (nI 128)) dX8_bitsOf_43 rfl (by decide) ?_
        refine g_icmpN_ge (q := 49) (t := 68) dX8_bitsOf_46 rfl (by decide) (by omega) (by omega) (fun c => absurd c (by omega)) (fun _ => ?_)
        refine g_fload_n (q := 50) dX8_bitsOf_49 rfl rfl ?_
        refine g_fconst1 (q := 51) dX8_bitsOf_50 rfl ?_
        refine g_fcmp (q := 52) dX8_bitsOf_51 rfl ?_
        refine g_if_ge (q := 55) (t := 68) dX8_bitsOf_52 rfl (by decide) (fun c => absurd c (hlt)) (fun _ => ?_)
        refine g_fload_n (q := 56) dX8_bitsOf_55 rfl rfl ?_
        refine g_fconst2 (q := 57) dX8_bitsOf_56 rfl ?_
        refine g_fmul (q := 58) dX8_bitsOf_57 rfl hdb.n32 ?_
        refine g_fstore_n (q := 59) rfl dX8_bitsOf_58 rfl (by decide) rfl ?_
        refine g_iinc (q := 62) dX8_bitsOf_59 rfl (by decide) rfl rfl rfl ?_
        refine g_iincN (q := 65) (c := 1) dX8_bitsOf_62 rfl (by decide) rfl rfl (by decide) ?_
        refine g_goto (q := 42) dX8_bitsOf_65 (by decide) ?_
        rw [iI_m]
        refine g_lvs (lv1 := [(3, .int (nI (j + 1))), (2, .int (iI (e - 1))), (1, .float (FP.fmul y FP.fconst2)), (0, .float x)]) ⟨rfl, rfl, rfl, rfl, trivial⟩ ?_
        exact ih (j + 1) _ (e - 1) (by omega) (by omega) (by omega) (by rw [show q - (e - 1) = q - e + 1 by omega]; exact hdb)
    have K1 : ∀ (m i : Nat) (y : UInt32), (m : Int) = max 0 (q + 23 - (i : Int)) → i + m ≤ 127 → (i = 0 ∨ (i : Int) ≤ q + 23) → f_nm y c (q - (i : Int)) → bz_G l E mX8_bitsOf (bz_R 0 0 0) L sz (bz_Fm E L sz (fun r g1 => r = some (.int x.toInt32) ∧ g1 = g)) sz 0 0 L g 14 [(3, .int (nI i)), (2, .int (iI (i : Int))), (1, .float y), (0, .float x)] [] := by
      intro m
      induction m with
      | zero =>
        intro i y hm hi hq0 hy
        have hlt : Op.cmpValue (FP.fcmp y 1073741824) .l < (0 : Int32) := by
          rw [(f_cmp (y := 1073741824) (r := -22) hy (by decide)).1 (by omega)]; decide
        refine g_iload_n (q := 15) dX8_bitsOf_14 rfl rfl ?_
        refine g_sipush (q := 18) (v := (nI 128)) dX8_bitsOf_15 rfl (by decide) ?_
        refine g_icmpN_ge (q := 21) (t := 40) dX8_bitsOf_18 rfl (by decide) (by omega) (by omega) (fun c => absurd c (by omega)) (fun _ => ?_)
        refine g_fload_n (q := 22) dX8_bitsOf_21 rfl rfl ?_
        refine g_fconst2 (q := 23) dX8_bitsOf_22 rfl ?_
        refine g_fcmp (q := 24) dX8_bitsOf_23 rfl ?_
        refine g_if_lt (q := 27) (t := 40) dX8_bitsOf_24 rfl (by decide) (fun _ => ?_) (fun c => absurd (hlt) c)
        refine g_iconst (q := 41) (v := (nI 0)) dX8_bitsOf_40 rfl (by decide) ?_
        refine g_istore_n (q := 42) rfl dX8_bitsOf_41 rfl (by decide) rfl ?_
        refine g_lvs (lv1 := [(3, .int (nI 0)), (2, .int (iI (i : Int))), (1, .float y), (0, .float x)]) ⟨rfl, rfl, rfl, rfl, trivial⟩ ?_
        exact K2 ((i : Int) - (q + 23)).toNat 0 y (i : Int) (by omega) (by omega) (by omega) hy
      | succ m ih =>
        intro i y hm hi hq0 hy
        have hge : ¬ Op.cmpValue (FP.fcmp y 1073741824) .l < (0 : Int32) := by
          rcases (f_cmp (y := 1073741824) (r := -22) hy (by decide)).2 (by omega) with e1 | e1 <;> rw [e1] <;> decide
        have hhf := f_half hy (by omega)
        refine g_iload_n (q := 15) dX8_bitsOf_14 rfl rfl ?_
        refine g_sipush (q := 18) (v := (nI 128)) dX8_bitsOf_15 rfl (by decide) ?_
        refine g_icmpN_ge (q := 21) (t := 40) dX8_bitsOf_18 rfl (by decide) (by omega) (by omega) (fun c => absurd c (by omega)) (fun _ => ?_)
        refine g_fload_n (q := 22) dX8_bitsOf_21 rfl rfl ?_
        refine g_fconst2 (q := 23) dX8_bitsOf_22 rfl ?_
        refine g_fcmp (q := 24) dX8_bitsOf_23 rfl ?_
        refine g_if_lt (q := 27) (t := 40) dX8_bitsOf_24 rfl (by decide) (fun c => absurd c (hge)) (fun _ => ?_)
        refine g_fload_n (q := 28) dX8_bitsOf_27 rfl rfl ?_
        refine g_fconst2 (q := 29) dX8_bitsOf_28 rfl ?_
        refine g_fdiv (q := 30) dX8_bitsOf_29 rfl hhf.n32 ?_
        refine g_fstore_n (q := 31) rfl dX8_bitsOf_30 rfl (by decide) rfl ?_
        refine g_iinc (q := 34) dX8_bitsOf_31 rfl (by decide) rfl rfl rfl ?_
        refine g_iincN (q := 37) (c := 1) dX8_bitsOf_34 rfl (by decide) rfl rfl (by decide) ?_
        refine g_goto (q := 14) dX8_bitsOf_37 (by decide) ?_
        rw [iI_p]
        refine g_lvs (lv1 := [(3, .int (nI (i + 1))), (2, .int (iI ((i + 1 : Nat) : Int))), (1, .float (FP.fdiv y FP.fconst2)), (0, .float x)]) ⟨rfl, rfl, rfl, rfl, trivial⟩ ?_
        exact ih (i + 1) _ (by omega) (by omega) (by omega) (by rw [show q - ((i + 1 : Nat) : Int) = q - (i : Int) - 1 by omega]; exact hhf)
    refine g_fload_n (q := 1) dX8_bitsOf_0 rfl rfl ?_
    refine g_fconst0 (q := 2) dX8_bitsOf_1 rfl ?_
    refine g_fcmp (q := 3) dX8_bitsOf_2 rfl ?_
    refine g_eqi (v := 1) (by rw [f_cmp0 hx]; rfl) ?_
    refine g_if_gt (q := 6) (t := 8) dX8_bitsOf_3 rfl (by decide) (fun _ => ?_) (fun c => absurd (by decide) c)
    refine g_fload_n (q := 9) dX8_bitsOf_8 rfl rfl ?_
    refine g_fstore_n (q := 10) rfl dX8_bitsOf_9 rfl (by decide) rfl ?_
    refine g_iconst (q := 11) (v := (nI 0)) dX8_bitsOf_10 rfl (by decide) ?_
    refine g_istore_n (q := 12) rfl dX8_bitsOf_11 rfl (by decide) rfl ?_
    refine g_iconst (q := 13) (v := (nI 0)) dX8_bitsOf_12 rfl (by decide) ?_
    refine g_istore_n (q := 14) rfl dX8_bitsOf_13 rfl (by decide) rfl ?_
    refine g_lvs (lv1 := [(3, .int (nI 0)), (2, .int (iI ((0 : Nat) : Int))), (1, .float x), (0, .float x)]) ⟨rfl, rfl, rfl, rfl, trivial⟩ ?_
    exact K1 (q + 23).toNat 0 x (by omega) (by omega) (Or.inl rfl) (by rw [show q - ((0 : Nat) : Int) = q by omega]; exact hx)
set_option maxRecDepth 20000 in
set_option maxHeartbeats 1000000 in
theorem c8_ratioBits {l : Launch} {E : bz_E} {L : List Nat} {g : Nat → va_E} {o p q : Nat} {n er v0 v1 : Int32} {rp : PLR} {rS : SR} {σ : Si} {D : Pl} (hn : ∀ s, s < 2 → (s_sd s σ).2.2.2.2.1 < 2147483648) (hw : ∀ s, s < 2 → (s_sd s σ).2.2.2.2.2.2 < 2147483648) (hr : s_srep rS σ) (hD : d_rep rp D) (hW : bz_W L g [(o, w_obj o p q n er v0 v1), (p, b_PL E p rp), (o + 27, b_Sit E (o + 27) rS)]) : bz_K l E mX8_ratioBits 1 [.ref o] L g (fun r g1 => r = some (.int (f_rb (f_w (s_sd 0 σ).2.2.2.2.2.2 (s_sd 0 σ).2.2.2.2.1) (f_w (s_sd 1 σ).2.2.2.2.2.2 (s_sd 1 σ).2.2.2.2.1))) ∧ g1 = g) := by
  refine bz_K.of (by decide) (bz_le rfl) (fun sz => ?_)
  have hB := bz_B.rf hW
  show bz_G _ _ _ _ _ _ _ _ _ _ _ _ 0 [(0, .ref o)] []
  have h0 := f_w_z (hw 0 (by decide)) (hn 0 (by decide))
  have h1 := f_w_z (hw 1 (by decide)) (hn 1 (by decide))
  by_cases hx : (f_w (s_sd 1 σ).2.2.2.2.2.2 (s_sd 1 σ).2.2.2.2.1) = 0
  · refine g_aload_n (q := 1) dX8_ratioBits_0 rfl rfl ?_
    refine gb_getf (q := 4) (j := 0) (i := 0) dX8_ratioBits_1 rfl fl_X8_33 hB rfl rfl rfl rfl ?_
    refine g_iconst (q := 5) (v := (nI 1)) dX8_ratioBits_4 rfl (by decide) ?_
    refine gb_callV (q := 8) (j := 2) (i := 0) dX8_ratioBits_5 rfl kv_X8_119 (c_portOf1 (hB.1.at (j := 2) rfl)) rfl (by decide) hB rfl rfl rfl rfl (bz_le rfl) (by decide) (by decide) (fun r g1 hQ => ?_)
    obtain ⟨rfl, hg⟩ := hQ
    have hg := hg.symm
    subst hg
    refine g_callS (q := 11) dX8_ratioBits_8 rfl ks_X8_196 rfl (c8_waitOf1 (hn 1 (by decide)) (hw 1 (by decide)) hr hD hB.1) (by decide) rfl (bz_le rfl) (by decide) (by decide) (fun r g1 hQ => ?_)
    obtain ⟨rfl, hg⟩ := hQ
    have hg := hg.symm
    subst hg
    refine g_fstore_n (q := 12) rfl dX8_ratioBits_11 rfl (by decide) rfl ?_
    refine g_fload_n (q := 13) dX8_ratioBits_12 rfl rfl ?_
    refine g_fconst0 (q := 14) dX8_ratioBits_13 rfl ?_
    refine g_fcmp (q := 15) dX8_ratioBits_14 rfl ?_
    refine g_eqi (v := 0) (by rw [hx, f_cmp00]; rfl) ?_
    refine g_if_ne (q := 18) (t := 20) dX8_ratioBits_15 rfl (by decide) (fun c => absurd c (fun h => h rfl)) (fun _ => ?_)
    refine g_iconst (q := 19) (v := (nI 0)) dX8_ratioBits_18 rfl (by decide) ?_
    exact g_iret dX8_ratioBits_19 rfl (⟨by unfold f_rb; rw [if_pos hx], rfl⟩)
  · have hrz := f_r_z h0 h1 hx
    refine g_aload_n (q := 1) dX8_ratioBits_0 rfl rfl ?_
    refine gb_getf (q := 4) (j := 0) (i := 0) dX8_ratioBits_1 rfl fl_X8_33 hB rfl rfl rfl rfl ?_
    refine g_iconst (q := 5) (v := (nI 1)) dX8_ratioBits_4 rfl (by decide) ?_
    refine gb_callV (q := 8) (j := 2) (i := 0) dX8_ratioBits_5 rfl kv_X8_119 (c_portOf1 (hB.1.at (j := 2) rfl)) rfl (by decide) hB rfl rfl rfl rfl (bz_le rfl) (by decide) (by decide) (fun r g1 hQ => ?_)
    obtain ⟨rfl, hg⟩ := hQ
    have hg := hg.symm
    subst hg
    refine g_callS (q := 11) dX8_ratioBits_8 rfl ks_X8_196 rfl (c8_waitOf1 (hn 1 (by decide)) (hw 1 (by decide)) hr hD hB.1) (by decide) rfl (bz_le rfl) (by decide) (by decide) (fun r g1 hQ => ?_)
    obtain ⟨rfl, hg⟩ := hQ
    have hg := hg.symm
    subst hg
    refine g_fstore_n (q := 12) rfl dX8_ratioBits_11 rfl (by decide) rfl ?_
    refine g_fload_n (q := 13) dX8_ratioBits_12 rfl rfl ?_
    refine g_fconst0 (q := 14) dX8_ratioBits_13 rfl ?_
    refine g_fcmp (q := 15) dX8_ratioBits_14 rfl ?_
    refine g_eqi (v := 1) (by rw [h1.ne0 hx]; rfl) ?_
    refine g_if_ne (q := 18) (t := 20) dX8_ratioBits_15 rfl (by decide) (fun _ => ?_) (fun c => absurd c (by decide))
    refine g_aload_n (q := 21) dX8_ratioBits_20 rfl rfl ?_
    refine gb_getf (q := 24) (j := 0) (i := 0) dX8_ratioBits_21 rfl fl_X8_33 hB rfl rfl rfl rfl ?_
    refine g_iconst (q := 25) (v := (nI 0)) dX8_ratioBits_24 rfl (by decide) ?_
    refine gb_callV (q := 28) (j := 2) (i := 0) dX8_ratioBits_25 rfl kv_X8_119 (c_portOf0 (hB.1.at (j := 2) rfl)) rfl (by decide) hB rfl rfl rfl rfl (bz_le rfl) (by decide) (by decide) (fun r g1 hQ => ?_)
    obtain ⟨rfl, hg⟩ := hQ
    have hg := hg.symm
    subst hg
    refine g_callS (q := 31) dX8_ratioBits_28 rfl ks_X8_196 rfl (c8_waitOf0 (hn 0 (by decide)) (hw 0 (by decide)) hr hD hB.1) (by decide) rfl (bz_le rfl) (by decide) (by decide) (fun r g1 hQ => ?_)
    obtain ⟨rfl, hg⟩ := hQ
    have hg := hg.symm
    subst hg
    refine g_fload_n (q := 32) dX8_ratioBits_31 rfl rfl ?_
    refine g_fdiv (q := 33) dX8_ratioBits_32 rfl hrz.n32 ?_
    refine g_callS (q := 36) dX8_ratioBits_33 rfl ks_X8_200 rfl (c8_bitsOf hrz) (by decide) rfl (bz_le rfl) (by decide) (by decide) (fun r g1 hQ => ?_)
    obtain ⟨rfl, hg⟩ := hQ
    have hg := hg.symm
    subst hg
    exact g_iret dX8_ratioBits_36 rfl (⟨by unfold f_rb; rw [if_neg hx], rfl⟩)
