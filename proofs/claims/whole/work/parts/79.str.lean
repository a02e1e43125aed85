/-! THE CONSTANTS' TEXTS: String.length, String.charAt -/
def bz_kS (own : String) (idx : Nat) (M2 : bz_M) (n : Nat) : Prop := bz_kd M2 n ∧ Cond.methodLink own idx M2.1 ∈ bz_tbl ∧ Cond.instanceMethod M2.1 ∈ bz_tbl ∧ Cond.selects "java/lang/String" M2.1 M2.1 ∈ bz_tbl
section GS
variable {l : Launch} {E : bz_E} {M : bz_M} {d mc ms : Nat} {L0 : List Nat} {z0 : Nat} {Fn : bz_F} {sz k n : Nat} {L : List Nat} {g : Nat → va_E} {pc q : Nat} {lv : List (Nat × Value)} {st : List Value}
theorem g_callT {M2 : bz_M} {d2 idx N i : Nat} {As rest : List Value} {Q2 : Option Value → (Nat → va_E) → Prop} (hd : decode M.2.1 pc = .ok (.invokevirtual idx, 3)) (hq : pc + 3 = q) (hk : bz_kS M.1.cls idx M2 N) (hi : i < 11) (hK : bz_K l E M2 d2 (.ref (E.2.1 i) :: As) L g Q2) (hN : As.length = N) (hdd : d2 < d) (hst : st = As.reverse ++ .ref (E.2.1 i) :: rest) (hr : (rest.map fun v => v.category).sum ≤ 8)
    (hkc : k + 0 ≤ (bz_R d mc ms).cells) (hns : n + 0 ≤ (bz_R d mc ms).slots)
    (kk : ∀ (r : Option Value) (g1 : Nat → va_E), Q2 r g1 → bz_G l E M (bz_R d mc ms) L0 z0 Fn sz k n L g1 q lv (r.toList ++ rest)) : bz_G l E M (bz_R d mc ms) L0 z0 Fn sz k n L g pc lv st := by
  subst hq
  subst hst
  intro p e s m args below meth c H locs ls C hz hP hD hS hl
  obtain ⟨⟨w1, w2, w3, w4⟩, w5, w6, w7⟩ := hk
  have hts := C.2.2.2.2.2.1
  have hrc := vk_recv (i := 0) (C.2.2.2.2.2.2.2.2.2.2.2.1.1 i hi) (by decide) hS
  refine bz_after C hz hD hS hl (va_runV (As := As) (rest := rest) (n := N) (index := idx) (own := M.1.cls) (C := "java/lang/String") (nL := M.2.2.1) ⟨C.1, C.2.1, C.2.2.2.1, C.2.2.2.2.1, hts⟩ (hK sz) ⟨callB_of N hts (bz_gi w1) rfl rfl rfl (hts _ w2) (hts _ w5) w3 (bz_rm hdd w4), hts _ w6, hts _ w7⟩ ⟨bz_bl, hrc, fun U hU hW => ⟨rfl, by rw [hU]; exact hz, by rw [hU]; exact hP, va_K.moved hW.alike C.2.2.2.2.2.2.1, hD.weaken (fun _ _ _ _ => trivial), fun x hx => va_Nw.warmM hW (C.2.2.2.2.2.2.2.2.2.2.1 x hx), bz_Zt C hD hS hU hW⟩⟩ rfl hN hl.1 rfl ?_ hd ⟨hkc, hns⟩) kk
  show 2 * 0 + _ ≤ 8
  omega
end GS
section GT
variable {l : Launch} {E : bz_E} {M : bz_M} {R : Room} {L0 : List Nat} {z0 : Nat} {Fn : bz_F} {sz k n : Nat} {L : List Nat} {g : Nat → va_E} {pc q : Nat} {lv : List (Nat × Value)} {st : List Value}
theorem g_getZ {idx : Nat} (hd : decode M.2.1 pc = .ok (.getstatic idx, 3)) (hq : pc + 3 = q) (hk : Cond.fieldLink M.1.cls idx "java/lang/String" "COMPACT_STRINGS" "Z" ∈ bz_tbl) (kk : bz_G l E M R L0 z0 Fn sz k n L g q lv (.int 1 :: st)) : bz_G l E M R L0 z0 Fn sz k n L g pc lv st := by
  subst hq
  intro p e s m args below meth c H locs ls C hz hP hD hS hl
  exact va_gets C.1 C.2.1 C.2.2.2.2.2.2.2.2.2.2.2.1.2.2.1 hS C.2.2.2.2.1 (C.2.2.2.2.2.1 _ hk) (fun _ h => h) hd (kk p e s m args below meth c H locs ls C hz hP hD hS hl)
theorem g_getQ {idx : Nat} (hd : decode M.2.1 pc = .ok (.getstatic idx, 3)) (hq : pc + 3 = q) (hk : Cond.fieldLink M.1.cls idx "jdk/internal/util/Preconditions" "SIOOBE_FORMATTER" "Ljava/util/function/BiFunction;" ∈ bz_tbl) (kk : ∀ v : Value, (v = .null ∨ ∃ a, v = .ref a) → bz_G l E M R L0 z0 Fn sz k n L g q lv (v :: st)) : bz_G l E M R L0 z0 Fn sz k n L g pc lv st := by
  subst hq
  intro p e s m args below meth c H locs ls C hz hP hD hS hl
  rcases C.2.2.2.2.2.2.2.2.2.2.2.1.2.2.2.1 with hZ | ⟨t, hZ⟩
  · exact va_gets C.1 C.2.1 hZ hS C.2.2.2.2.1 (C.2.2.2.2.2.1 _ hk) (fun _ h => h) hd (kk _ (Or.inl rfl) p e s m args below meth c H locs ls C hz hP hD hS hl)
  · exact va_gets C.1 C.2.1 hZ hS C.2.2.2.2.1 (C.2.2.2.2.2.1 _ hk) (fun _ h => h) hd (kk _ (Or.inr ⟨t, rfl⟩) p e s m args below meth c H locs ls C hz hP hD hS hl)
theorem g_strv {idx i : Nat} (hd : decode M.2.1 pc = .ok (.getfield idx, 3)) (hq : pc + 3 = q) (hk : Cond.fieldLink M.1.cls idx "java/lang/String" "value" "[B" ∈ bz_tbl) (hi : i < 11) (kk : bz_G l E M R L0 z0 Fn sz k n L g q lv (.ref (E.2.2 i) :: st)) : bz_G l E M R L0 z0 Fn sz k n L g pc lv (.ref (E.2.1 i) :: st) := by
  subst hq
  intro p e s m args below meth c H locs ls C hz hP hD hS hl
  exact vk_getf C.1 C.2.1 ((C.2.2.2.2.2.2.2.2.2.2.2.1.1 i hi).1 0 (by decide)).2.2.1 hS C.2.2.2.2.1 (C.2.2.2.2.2.1 _ hk) (fun _ h => h) hd (kk p e s m args below meth c H locs ls C hz hP hD hS hl)
theorem g_strc {idx i : Nat} (hd : decode M.2.1 pc = .ok (.getfield idx, 3)) (hq : pc + 3 = q) (hk : Cond.fieldLink M.1.cls idx "java/lang/String" "coder" "B" ∈ bz_tbl) (hi : i < 11) (kk : bz_G l E M R L0 z0 Fn sz k n L g q lv (.int 0 :: st)) : bz_G l E M R L0 z0 Fn sz k n L g pc lv (.ref (E.2.1 i) :: st) := by
  subst hq
  intro p e s m args below meth c H locs ls C hz hP hD hS hl
  exact vk_getf C.1 C.2.1 ((C.2.2.2.2.2.2.2.2.2.2.2.1.1 i hi).1 0 (by decide)).2.1 hS C.2.2.2.2.1 (C.2.2.2.2.2.1 _ hk) (fun _ h => h) hd (kk p e s m args below meth c H locs ls C hz hP hD hS hl)
theorem g_slen {i : Nat} (hd : decode M.2.1 pc = .ok (.arraylength, 1)) (hq : pc + 1 = q) (hi : i < 11) (kk : bz_G l E M R L0 z0 Fn sz k n L g q lv (.int (nI (bz_len.getD i 0)) :: st)) : bz_G l E M R L0 z0 Fn sz k n L g pc lv (.ref (E.2.2 i) :: st) := by
  subst hq
  intro p e s m args below meth c H locs ls C hz hP hD hS hl
  exact va_tlen C.1 C.2.1 ((C.2.2.2.2.2.2.2.2.2.2.2.1.1 i hi).1 0 (by decide)).2.2.2 hS rfl hd (kk p e s m args below meth c H locs ls C hz hP hD hS hl)
theorem bz_len_lt : ∀ i, i < 11 → bz_len.getD i 0 < 2 ^ 31 := by decide
theorem g_sbyte {i x : Nat} (hd : decode M.2.1 pc = .ok (.baload, 1)) (hq : pc + 1 = q) (hi : i < 11) (hx : x < bz_len.getD i 0) (hx31 : x < 2 ^ 31) (kk : bz_G l E M R L0 z0 Fn sz k n L g q lv (.int ((bz_byt.getD i []).getD x 0) :: st)) : bz_G l E M R L0 z0 Fn sz k n L g pc lv (.int (nI x) :: .ref (E.2.2 i) :: st) := by
  subst hq
  intro p e s m args below meth c H locs ls C hz hP hD hS hl
  exact va_tb C.1 C.2.1 ((C.2.2.2.2.2.2.2.2.2.2.2.1.1 i hi).1 0 (by decide)).2.2.2 hS (vp_in_nI hx (bz_len_lt i hi)) (by show Value.int ((bz_byt.getD i []).getD (nI x).toNatClampNeg 0) = _; rw [nI_clamp hx31]) hd (kk p e s m args below meth c H locs ls C hz hP hD hS hl)
theorem g_i2c {x : Int32} (hd : decode M.2.1 pc = .ok (.i2c, 1)) (hq : pc + 1 = q) (kk : bz_G l E M R L0 z0 Fn sz k n L g q lv (.int (x.toUInt32 % 65536).toInt32 :: st)) : bz_G l E M R L0 z0 Fn sz k n L g pc lv (.int x :: st) := by
  subst hq
  intro p e s m args below meth c H locs ls C hz hP hD hS hl
  exact lv_i2c C.1 C.2.1 hd rfl (kk p e s m args below meth c H locs ls C hz hP hD hS hl)
end GT
theorem kT_X0_167 : bz_kS RX0 167 mJ0_length_8abf5 0 := ⟨kd_J0_length_8abf5, bz_mw 765 (by decide +kernel), bz_mw 766 (by decide +kernel), bz_mw 767 (by decide +kernel)⟩
theorem kT_X9_121 : bz_kS RX9 121 mJ0_length_8abf5 0 := ⟨kd_J0_length_8abf5, bz_mw 1353 (by decide +kernel), bz_mw 766 (by decide +kernel), bz_mw 767 (by decide +kernel)⟩
theorem kT_X0_175 : bz_kS RX0 175 mJ0_charAt_5068e 1 := ⟨kd_J0_charAt_5068e, bz_mw 775 (by decide +kernel), bz_mw 776 (by decide +kernel), bz_mw 777 (by decide +kernel)⟩
theorem kT_X9_126 : bz_kS RX9 126 mJ0_charAt_5068e 1 := ⟨kd_J0_charAt_5068e, bz_mw 1354 (by decide +kernel), bz_mw 776 (by decide +kernel), bz_mw 777 (by decide +kernel)⟩
theorem kT_J0_335 : bz_kS RJ0 335 mJ0_coder_7d493 0 := ⟨kd_J0_coder_7d493, bz_mw 769 (by decide +kernel), bz_mw 770 (by decide +kernel), bz_mw 771 (by decide +kernel)⟩
theorem kT_J0_492 : bz_kS RJ0 492 mJ0_isLatin1_aae02 0 := ⟨kd_J0_isLatin1_aae02, bz_mw 779 (by decide +kernel), bz_mw 780 (by decide +kernel), bz_mw 781 (by decide +kernel)⟩
theorem bz_shr0 : ∀ i, i < 11 → nI (bz_len.getD i 0) >>> ((0 : Int32) &&& 31) = nI (bz_len.getD i 0) := by decide
theorem bz_chr : ∀ i, i < 11 → ∀ k, k < bz_len.getD i 0 → ((((bz_byt.getD i []).getD k 0) &&& 255).toUInt32 % 65536).toInt32 = (bz_byt.getD i []).getD k 0 := by decide +kernel
theorem bz_chn : ∀ i, i < 11 → ∀ k, k < bz_len.getD i 0 → ((((bz_byt.getD i []).getD k 0).toUInt32 % 65536).toInt32 = (bz_byt.getD i []).getD k 0) := by decide +kernel
theorem bz_ch8 : ∀ i, i < 11 → bz_len.getD i 0 ≤ 8 := by decide
set_option maxRecDepth 20000 in
set_option maxHeartbeats 1000000 in
theorem c_coder {l : Launch} {E : bz_E} {L : List Nat} {g : Nat → va_E} {i : Nat} (hi : i < 11) : bz_K l E mJ0_coder_7d493 0 [.ref (E.2.1 i)] L g (fun r g1 => r = some (.int 0) ∧ g1 = g) := by
  refine bz_K.of (by decide) (bz_le rfl) (fun sz => ?_)
  show bz_G _ _ _ _ _ _ _ _ _ _ _ _ 0 [(0, .ref (E.2.1 i))] []
  refine g_getZ (q := 3) dJ0_coder_7d493_0 rfl (bz_mw 773 (by decide +kernel)) ?_
  refine g_if_eq (q := 6) (t := 13) dJ0_coder_7d493_3 rfl (by decide) (fun c => absurd c (by decide)) (fun _ => ?_)
  refine g_aload_n (q := 7) dJ0_coder_7d493_6 rfl rfl ?_
  refine g_strc (q := 10) dJ0_coder_7d493_7 rfl (bz_mw 1667 (by decide +kernel)) hi ?_
  refine g_goto (q := 14) dJ0_coder_7d493_10 (by decide) ?_
  exact g_zret dJ0_coder_7d493_14 rfl rfl ⟨rfl, rfl⟩
set_option maxRecDepth 20000 in
set_option maxHeartbeats 1000000 in
theorem c_isLatin1 {l : Launch} {E : bz_E} {L : List Nat} {g : Nat → va_E} {i : Nat} (hi : i < 11) : bz_K l E mJ0_isLatin1_aae02 0 [.ref (E.2.1 i)] L g (fun r g1 => r = some (.int 1) ∧ g1 = g) := by
  refine bz_K.of (by decide) (bz_le rfl) (fun sz => ?_)
  show bz_G _ _ _ _ _ _ _ _ _ _ _ _ 0 [(0, .ref (E.2.1 i))] []
  refine g_getZ (q := 3) dJ0_isLatin1_aae02_0 rfl (bz_mw 773 (by decide +kernel)) ?_
  refine g_if_eq (q := 6) (t := 17) dJ0_isLatin1_aae02_3 rfl (by decide) (fun c => absurd c (by decide)) (fun _ => ?_)
  refine g_aload_n (q := 7) dJ0_isLatin1_aae02_6 rfl rfl ?_
  refine g_strc (q := 10) dJ0_isLatin1_aae02_7 rfl (bz_mw 1667 (by decide +kernel)) hi ?_
  refine g_if_ne (q := 13) (t := 17) dJ0_isLatin1_aae02_10 rfl (by decide) (fun c => absurd rfl c) (fun _ => ?_)
  refine g_iconst (q := 14) (v := 1) dJ0_isLatin1_aae02_13 rfl (by decide) ?_
  refine g_goto (q := 18) dJ0_isLatin1_aae02_14 (by decide) ?_
  exact g_zret dJ0_isLatin1_aae02_18 rfl rfl ⟨rfl, rfl⟩
set_option maxRecDepth 20000 in
set_option maxHeartbeats 1000000 in
theorem c_length {l : Launch} {E : bz_E} {L : List Nat} {g : Nat → va_E} {i : Nat} (hi : i < 11) : bz_K l E mJ0_length_8abf5 1 [.ref (E.2.1 i)] L g (fun r g1 => r = some (.int (nI (bz_len.getD i 0))) ∧ g1 = g) := by
  refine bz_K.of (by decide) (bz_le rfl) (fun sz => ?_)
  show bz_G _ _ _ _ _ _ _ _ _ _ _ _ 0 [(0, .ref (E.2.1 i))] []
  refine g_aload_n (q := 1) dJ0_length_8abf5_0 rfl rfl ?_
  refine g_strv (q := 4) dJ0_length_8abf5_1 rfl (bz_mw 1666 (by decide +kernel)) hi ?_
  refine g_slen (q := 5) dJ0_length_8abf5_4 rfl hi ?_
  refine g_aload_n (q := 6) dJ0_length_8abf5_5 rfl rfl ?_
  refine g_callT (q := 9) dJ0_length_8abf5_6 rfl kT_J0_335 hi (c_coder hi) rfl (by decide) rfl (bz_le rfl) (by decide) (by decide) (fun r g1 hQ => ?_)
  obtain ⟨rfl, hg⟩ := hQ
  have hg := hg.symm
  subst hg
  refine g_ishr (q := 10) dJ0_length_8abf5_9 rfl ?_
  refine g_eqi (v := nI (bz_len.getD i 0)) (bz_shr0 i hi) ?_
  exact g_iret dJ0_length_8abf5_10 rfl ⟨rfl, rfl⟩
set_option maxRecDepth 20000 in
set_option maxHeartbeats 1000000 in
theorem c_checkIndex3 {l : Launch} {E : bz_E} {L : List Nat} {g : Nat → va_E} {a b : Nat} {v : Value} (hab : a < b) (hb : b < 2 ^ 31) (hv : v = .null ∨ ∃ x, v = .ref x) : bz_K l E mJ3_checkIndex_8e157 0 [.int (nI a), .int (nI b), v] L g (fun r g1 => r = some (.int (nI a)) ∧ g1 = g) := by
  have hlen : (lg_sl [.int (nI a), .int (nI b), v]).length ≤ 3 := by rcases hv with rfl | ⟨x, rfl⟩ <;> exact bz_le rfl
  have hlv : lv_args 0 [.int (nI a), .int (nI b), v] = [(0, .int (nI a)), (1, .int (nI b)), (2, v)] := by rcases hv with rfl | ⟨x, rfl⟩ <;> rfl
  refine bz_K.of (by decide) hlen (fun sz => ?_)
  rw [hlv]
  refine g_iload_n (q := 1) dJ3_checkIndex_8e157_0 rfl rfl ?_
  refine g_ifN_lt (q := 4) (t := 9) dJ3_checkIndex_8e157_1 rfl (by decide) (by omega) ?_
  refine g_iload_n (q := 5) dJ3_checkIndex_8e157_4 rfl rfl ?_
  refine g_iload_n (q := 6) dJ3_checkIndex_8e157_5 rfl rfl ?_
  refine g_icmpN_lt (q := 9) (t := 16) dJ3_checkIndex_8e157_6 rfl (by decide) (by omega) (by omega) (fun _ => ?_) (fun c => absurd c (by omega))
  refine g_iload_n (q := 17) dJ3_checkIndex_8e157_16 rfl rfl ?_
  exact g_iret dJ3_checkIndex_8e157_17 rfl ⟨rfl, rfl⟩
set_option maxRecDepth 20000 in
set_option maxHeartbeats 1000000 in
theorem c_checkIndex0 {l : Launch} {E : bz_E} {L : List Nat} {g : Nat → va_E} {a b : Nat} (hab : a < b) (hb : b < 2 ^ 31) : bz_K l E mJ0_checkIndex_df160 1 [.int (nI a), .int (nI b)] L g (fun r g1 => r = none ∧ g1 = g) := by
  refine bz_K.of (by decide) (bz_le rfl) (fun sz => ?_)
  show bz_G _ _ _ _ _ _ _ _ _ _ _ _ 0 [(0, .int (nI a)), (1, .int (nI b))] []
  refine g_iload_n (q := 1) dJ0_checkIndex_df160_0 rfl rfl ?_
  refine g_iload_n (q := 2) dJ0_checkIndex_df160_1 rfl rfl ?_
  refine g_getQ (q := 5) dJ0_checkIndex_df160_2 rfl (bz_mw 789 (by decide +kernel)) (fun v hv => ?_)
  refine g_callS (q := 8) dJ0_checkIndex_df160_5 rfl ks_J0_1059 (As := [.int (nI a), .int (nI b), v]) rfl (c_checkIndex3 hab hb hv) (by decide) rfl (bz_le rfl) (by decide) (by decide) (fun r g1 hQ => ?_)
  obtain ⟨rfl, hg⟩ := hQ
  have hg := hg.symm
  subst hg
  refine g_pop (q := 9) dJ0_checkIndex_df160_8 rfl rfl ?_
  exact g_vret dJ0_checkIndex_df160_9 rfl ⟨rfl, rfl⟩
set_option maxRecDepth 20000 in
set_option maxHeartbeats 1000000 in
theorem c_charAt1 {l : Launch} {E : bz_E} {L : List Nat} {g : Nat → va_E} {i x : Nat} (hi : i < 11) (hx : x < bz_len.getD i 0) : bz_K l E mJ1_charAt_3b067 2 [.ref (E.2.2 i), .int (nI x)] L g (fun r g1 => r = some (.int ((bz_byt.getD i []).getD x 0)) ∧ g1 = g) := by
  have h8 := bz_ch8 i hi
  refine bz_K.of (by decide) (bz_le rfl) (fun sz => ?_)
  show bz_G _ _ _ _ _ _ _ _ _ _ _ _ 0 [(0, .ref (E.2.2 i)), (1, .int (nI x))] []
  refine g_iload_n (q := 1) dJ1_charAt_3b067_0 rfl rfl ?_
  refine g_aload_n (q := 2) dJ1_charAt_3b067_1 rfl rfl ?_
  refine g_slen (q := 3) dJ1_charAt_3b067_2 rfl hi ?_
  refine g_callS (q := 6) dJ1_charAt_3b067_3 rfl ks_J1_9 (As := [.int (nI x), .int (nI (bz_len.getD i 0))]) rfl (c_checkIndex0 hx (by omega)) (by decide) rfl (bz_le rfl) (by decide) (by decide) (fun r g1 hQ => ?_)
  obtain ⟨rfl, hg⟩ := hQ
  have hg := hg.symm
  subst hg
  refine g_aload_n (q := 7) dJ1_charAt_3b067_6 rfl rfl ?_
  refine g_iload_n (q := 8) dJ1_charAt_3b067_7 rfl rfl ?_
  refine g_sbyte (q := 9) dJ1_charAt_3b067_8 rfl hi hx (by omega) ?_
  refine g_sipush (q := 12) (v := 255) dJ1_charAt_3b067_9 rfl (by decide) ?_
  refine g_iand (q := 13) dJ1_charAt_3b067_12 rfl ?_
  refine g_i2c (q := 14) dJ1_charAt_3b067_13 rfl ?_
  refine g_eqi (v := (bz_byt.getD i []).getD x 0) (bz_chr i hi x hx) ?_
  refine g_zret dJ1_charAt_3b067_14 rfl ?_ ⟨rfl, rfl⟩
  show Value.int _ = Value.int _
  exact congrArg Value.int (bz_chn i hi x hx)
set_option maxRecDepth 20000 in
set_option maxHeartbeats 1000000 in
theorem c_charAt {l : Launch} {E : bz_E} {L : List Nat} {g : Nat → va_E} {i x : Nat} (hi : i < 11) (hx : x < bz_len.getD i 0) : bz_K l E mJ0_charAt_5068e 3 [.ref (E.2.1 i), .int (nI x)] L g (fun r g1 => r = some (.int ((bz_byt.getD i []).getD x 0)) ∧ g1 = g) := by
  refine bz_K.of (by decide) (bz_le rfl) (fun sz => ?_)
  show bz_G _ _ _ _ _ _ _ _ _ _ _ _ 0 [(0, .ref (E.2.1 i)), (1, .int (nI x))] []
  refine g_aload_n (q := 1) dJ0_charAt_5068e_0 rfl rfl ?_
  refine g_callT (q := 4) dJ0_charAt_5068e_1 rfl kT_J0_492 hi (c_isLatin1 hi) rfl (by decide) rfl (bz_le rfl) (by decide) (by decide) (fun r g1 hQ => ?_)
  obtain ⟨rfl, hg⟩ := hQ
  have hg := hg.symm
  subst hg
  refine g_if_eq (q := 7) (t := 16) dJ0_charAt_5068e_4 rfl (by decide) (fun c => absurd c (by decide)) (fun _ => ?_)
  refine g_aload_n (q := 8) dJ0_charAt_5068e_7 rfl rfl ?_
  refine g_strv (q := 11) dJ0_charAt_5068e_8 rfl (bz_mw 1666 (by decide +kernel)) hi ?_
  refine g_iload_n (q := 12) dJ0_charAt_5068e_11 rfl rfl ?_
  refine g_callS (q := 15) dJ0_charAt_5068e_12 rfl ks_J0_495 (As := [.ref (E.2.2 i), .int (nI x)]) rfl (c_charAt1 hi hx) (by decide) rfl (bz_le rfl) (by decide) (by decide) (fun r g1 hQ => ?_)
  obtain ⟨rfl, hg⟩ := hQ
  have hg := hg.symm
  subst hg
  refine g_zret dJ0_charAt_5068e_15 rfl ?_ ⟨rfl, rfl⟩
  exact congrArg Value.int (bz_chn i hi x hx)

