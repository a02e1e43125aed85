/-! THE LAW: its cases -/
theorem lw_lc (x : Int64) : lg_cmp x x = 0 := by
  unfold lg_cmp
  simp
theorem lw_z0 {v : Int32} (h : v = 0) : lg_cmp ((fun v : Int32 => if v = 0 then (0 : Int64) else 1) v) 0 = 0 := by
  show lg_cmp (if v = 0 then (0 : Int64) else 1) 0 = 0
  rw [if_pos h]; exact lw_lc _
theorem lw_z1 {v : Int32} (h : ¬ v = 0) : lg_cmp ((fun v : Int32 => if v = 0 then (0 : Int64) else 1) v) 1 = 0 := by
  show lg_cmp (if v = 0 then (0 : Int64) else 1) 1 = 0
  rw [if_neg h]; exact lw_lc _
theorem lw_k0 {k : Nat} (h : k ≤ 3) (h0 : nI k = 0) : k = 0 := by
  rcases (show k = 0 ∨ k = 1 ∨ k = 2 ∨ k = 3 by omega) with rfl | rfl | rfl | rfl
  · rfl
  · exact absurd h0 (by decide)
  · exact absurd h0 (by decide)
  · exact absurd h0 (by decide)
set_option maxRecDepth 20000 in
set_option maxHeartbeats 1000000 in
theorem lb_0 {l : Launch} {E : bz_E} {z0 : Nat} {s0 : State} {b N : Nat} {xs : Nat → Int32} {sz k n : Nat} {L : List Nat} {g : Nat → va_E} {o i : Nat} {A : WA} {I : Nat → Int32} {B : Nat → Nat → Int32} {U : Nat → Int64} {V : Nat → UInt64} (hl : l.stackTraces = false) (hX : va_X b N xs s0 s0.heap) (hbl : b < s0.heap.size) (hN : N ≤ 3072) (hi : i + 6 ≤ N) (hJ : lw_J E L g o A I B U V) (hkc : k + 1 ≤ 601024) (hns : n + 6 ≤ 7293034) (kk : ∀ (g1 : Nat → va_E) (z1 : Nat) (A1 : WA) (I1 : Nat → Int32) (B1 : Nat → Nat → Int32) (U1 : Nat → Int64) (V1 : Nat → UInt64), lw_J E L g1 o A1 I1 B1 U1 V1 → bz_G l E mL_law room_1 [] z0 (lw_F s0 b) z1 (k + 1) (n + 6) L g1 2172 [(5, .int (nI i)), (4, .ref (o + 424)), (3, .ref (o + 423)), (2, .ref (o + 407)), (1, .ref o), (0, .ref b)] []) : bz_G l E mL_law room_1 [] z0 (lw_F s0 b) sz k n L g 192 [(5, .int (nI i)), (4, .ref (o + 424)), (3, .ref (o + 423)), (2, .ref (o + 407)), (1, .ref o), (0, .ref b)] [] := by
  obtain ⟨d2, hd2, hK1⟩ := pn_append hl hJ (xs (i + 1)) (xs (i + 2)) (xs (i + 3)) (xs (i + 4)) (xs (i + 5))
  obtain ⟨hoL, fso, hog⟩ := lw_m8 hJ.1
  refine g_widen (k1 := k + 1) (n1 := n + 6) (by omega) (by omega) ?_
  refine g_aload_n (q := 193) dL_law_192 rfl rfl ?_
  refine g_aload_n (q := 194) dL_law_193 rfl rfl ?_
  refine g_iload (q := 196) dL_law_194 rfl rfl ?_
  refine g_iconst (q := 197) (v := (nI 1)) dL_law_196 rfl (by decide) ?_
  refine g_iaddN (q := 198) dL_law_197 rfl ?_
  refine gz_ld (q := 199) hX hbl hN (by omega) dL_law_198 rfl ?_
  refine g_aload_n (q := 200) dL_law_199 rfl rfl ?_
  refine g_iload (q := 202) dL_law_200 rfl rfl ?_
  refine g_iconst (q := 203) (v := (nI 2)) dL_law_202 rfl (by decide) ?_
  refine g_iaddN (q := 204) dL_law_203 rfl ?_
  refine gz_ld (q := 205) hX hbl hN (by omega) dL_law_204 rfl ?_
  refine g_aload_n (q := 206) dL_law_205 rfl rfl ?_
  refine g_iload (q := 208) dL_law_206 rfl rfl ?_
  refine g_iconst (q := 209) (v := (nI 3)) dL_law_208 rfl (by decide) ?_
  refine g_iaddN (q := 210) dL_law_209 rfl ?_
  refine gz_ld (q := 211) hX hbl hN (by omega) dL_law_210 rfl ?_
  refine g_aload_n (q := 212) dL_law_211 rfl rfl ?_
  refine g_iload (q := 214) dL_law_212 rfl rfl ?_
  refine g_iconst (q := 215) (v := (nI 4)) dL_law_214 rfl (by decide) ?_
  refine g_iaddN (q := 216) dL_law_215 rfl ?_
  refine gz_ld (q := 217) hX hbl hN (by omega) dL_law_216 rfl ?_
  refine g_aload_n (q := 218) dL_law_217 rfl rfl ?_
  refine g_iload (q := 220) dL_law_218 rfl rfl ?_
  refine g_iconst (q := 221) (v := (nI 5)) dL_law_220 rfl (by decide) ?_
  refine g_iaddN (q := 222) dL_law_221 rfl ?_
  refine gz_ld (q := 223) hX hbl hN (by omega) dL_law_222 rfl ?_
  refine gl_callV (q := 226) dL_law_223 rfl kv_L_104 rfl hK1 (by show d2 < 2048; omega) (by show 64 * d2 + 64 ≤ 84000; omega) hoL hog rfl (bz_le rfl) hkc hns (fun r g1 hQ => ?_)
  obtain ⟨v, rfl, ⟨hmL, fsm, hmg⟩, d3, hd3, hK2⟩ := hQ
  refine g_aload_n (q := 227) dL_law_226 rfl rfl ?_
  refine g_aload_n (q := 228) dL_law_227 rfl rfl ?_
  refine g_iload (q := 230) dL_law_228 rfl rfl ?_
  refine g_iconst (q := 231) (v := (nI 1)) dL_law_230 rfl (by decide) ?_
  refine g_iaddN (q := 232) dL_law_231 rfl ?_
  refine gz_ld (q := 233) hX hbl hN (by omega) dL_law_232 rfl ?_
  refine g_aload_n (q := 234) dL_law_233 rfl rfl ?_
  refine g_iload (q := 236) dL_law_234 rfl rfl ?_
  refine g_iconst (q := 237) (v := (nI 2)) dL_law_236 rfl (by decide) ?_
  refine g_iaddN (q := 238) dL_law_237 rfl ?_
  refine gz_ld (q := 239) hX hbl hN (by omega) dL_law_238 rfl ?_
  refine g_aload_n (q := 240) dL_law_239 rfl rfl ?_
  refine g_iload (q := 242) dL_law_240 rfl rfl ?_
  refine g_iconst (q := 243) (v := (nI 3)) dL_law_242 rfl (by decide) ?_
  refine g_iaddN (q := 244) dL_law_243 rfl ?_
  refine gz_ld (q := 245) hX hbl hN (by omega) dL_law_244 rfl ?_
  refine g_aload_n (q := 246) dL_law_245 rfl rfl ?_
  refine g_iload (q := 248) dL_law_246 rfl rfl ?_
  refine g_iconst (q := 249) (v := (nI 4)) dL_law_248 rfl (by decide) ?_
  refine g_iaddN (q := 250) dL_law_249 rfl ?_
  refine gz_ld (q := 251) hX hbl hN (by omega) dL_law_250 rfl ?_
  refine g_aload_n (q := 252) dL_law_251 rfl rfl ?_
  refine g_iload (q := 254) dL_law_252 rfl rfl ?_
  refine g_iconst (q := 255) (v := (nI 5)) dL_law_254 rfl (by decide) ?_
  refine g_iaddN (q := 256) dL_law_255 rfl ?_
  refine gz_ld (q := 257) hX hbl hN (by omega) dL_law_256 rfl ?_
  refine gl_callV (q := 260) dL_law_257 rfl kv_L_108 rfl hK2 (by show d3 < 2048; omega) (by show 64 * d3 + 64 ≤ 84000; omega) hmL hmg rfl (bz_le rfl) hkc hns (fun r g2 hQ => ?_)
  obtain ⟨rfl, A1, I1, B1, U1, V1, hJ⟩ := hQ
  refine g_icmp_eq (q := 263) (t := 2172) dL_law_260 rfl (by decide) (fun _ => ?_) (fun c => absurd (rfl) c)
  refine g_lvs (lv1 := [(5, .int (nI i)), (4, .ref (o + 424)), (3, .ref (o + 423)), (2, .ref (o + 407)), (1, .ref o), (0, .ref b)]) ⟨rfl, rfl, rfl, rfl, rfl, rfl, trivial⟩ ?_
  exact kk _ _ _ _ _ _ _ hJ
set_option maxRecDepth 20000 in
set_option maxHeartbeats 1000000 in
theorem lb_1 {l : Launch} {E : bz_E} {z0 : Nat} {s0 : State} {b N : Nat} {xs : Nat → Int32} {sz k n : Nat} {L : List Nat} {g : Nat → va_E} {o i : Nat} {A : WA} {I : Nat → Int32} {B : Nat → Nat → Int32} {U : Nat → Int64} {V : Nat → UInt64} (hl : l.stackTraces = false) (hX : va_X b N xs s0 s0.heap) (hbl : b < s0.heap.size) (hN : N ≤ 3072) (hi : i + 6 ≤ N) (hJ : lw_J E L g o A I B U V) (hkc : k + 1 ≤ 601024) (hns : n + 6 ≤ 7293034) (kk : ∀ (g1 : Nat → va_E) (z1 : Nat) (A1 : WA) (I1 : Nat → Int32) (B1 : Nat → Nat → Int32) (U1 : Nat → Int64) (V1 : Nat → UInt64), lw_J E L g1 o A1 I1 B1 U1 V1 → bz_G l E mL_law room_1 [] z0 (lw_F s0 b) z1 (k + 1) (n + 6) L g1 2172 [(5, .int (nI i)), (4, .ref (o + 424)), (3, .ref (o + 423)), (2, .ref (o + 407)), (1, .ref o), (0, .ref b)] []) : bz_G l E mL_law room_1 [] z0 (lw_F s0 b) sz k n L g 265 [(5, .int (nI i)), (4, .ref (o + 424)), (3, .ref (o + 423)), (2, .ref (o + 407)), (1, .ref o), (0, .ref b)] [] := by
  refine g_aload_n (q := 266) dL_law_265 rfl rfl ?_
  refine g_aload_n (q := 267) dL_law_266 rfl rfl ?_
  refine g_iload (q := 269) dL_law_267 rfl rfl ?_
  refine g_iconst (q := 270) (v := (nI 1)) dL_law_269 rfl (by decide) ?_
  refine g_iaddN (q := 271) dL_law_270 rfl ?_
  refine gz_ld (q := 272) hX hbl hN (by omega) dL_law_271 rfl ?_
  refine g_aload_n (q := 273) dL_law_272 rfl rfl ?_
  refine gl_callH (q := 276) dL_law_273 rfl kh_L_109 rfl (pr_parse hl hJ (xs (i + 1))) (by decide) (by decide) rfl (bz_le rfl) hkc hns (fun r g1 z1 hz1 hQ => ?_)
  obtain ⟨k9, hk9, rfl, ⟨hmL, fsm, hmg⟩, d2, hd2, hK2⟩ := hQ
  refine g_istore (q := 278) dL_law_276 rfl (by decide) rfl ?_
  refine g_aload_n (q := 279) dL_law_278 rfl rfl ?_
  refine g_aload_n (q := 280) dL_law_279 rfl rfl ?_
  refine g_iload (q := 282) dL_law_280 rfl rfl ?_
  refine g_iconst (q := 283) (v := (nI 1)) dL_law_282 rfl (by decide) ?_
  refine g_iaddN (q := 284) dL_law_283 rfl ?_
  refine gz_ld (q := 285) hX hbl hN (by omega) dL_law_284 rfl ?_
  refine gl_callV (q := 288) dL_law_285 rfl kv_L_114 rfl hK2 (by show d2 < 2048; omega) (by show 64 * d2 + 64 ≤ 84000; omega) hmL hmg rfl (bz_le rfl) hkc hns (fun r g2 hQ => ?_)
  obtain ⟨v, rfl, A1, I1, B1, U1, V1, hJ, hI, hU⟩ := hQ
  obtain ⟨hmL2, fsm2, hmg2⟩ := lw_m9 hJ.2.1
  refine g_istore (q := 290) dL_law_288 rfl (by decide) rfl ?_
  refine g_aload_n (q := 291) dL_law_290 rfl rfl ?_
  refine gl_callV (q := 294) dL_law_291 rfl kv_L_115 rfl (c_mthrown hJ.2.1) (by decide) (by decide) hmL2 hmg2 rfl (bz_le rfl) hkc hns (fun r g3 hQ => ?_)
  obtain ⟨rfl, hg9⟩ := hQ
  have hg9 := hg9.symm
  subst hg9
  have hB := bz_B.rf (bz_W.one hJ.2.2.1)
  refine g_iload (q := 296) dL_law_294 rfl rfl ?_
  refine g_icmp_eq (q := 299) (t := 301) dL_law_296 rfl (by decide) (fun _ => ?_) (fun c => absurd (hI) c)
  refine g_iload (q := 303) dL_law_301 rfl rfl ?_
  refine g_ifN_ne (q := 306) (t := 318) dL_law_303 rfl (by decide) (by omega) (fun c_303 => ?_) (fun c_303 => ?_)
  · refine g_goto (q := 2172) dL_law_318 (by decide) ?_
    refine g_lvs (lv1 := [(5, .int (nI i)), (4, .ref (o + 424)), (3, .ref (o + 423)), (2, .ref (o + 407)), (1, .ref o), (0, .ref b)]) ⟨rfl, rfl, rfl, rfl, rfl, rfl, trivial⟩ ?_
    exact kk _ _ _ _ _ _ _ hJ
  · refine g_aload_n (q := 307) dL_law_306 rfl rfl ?_
    refine g_iconst (q := 308) (v := (nI 0)) dL_law_307 rfl (by decide) ?_
    refine gb_laldN (q := 309) (j := 0) (i := 0) dL_law_308 rfl hB rfl rfl rfl (by omega) (by decide) ?_
    refine g_iload (q := 311) dL_law_309 rfl rfl ?_
    refine g_i2l (q := 312) dL_law_311 rfl ?_
    refine g_lcmp (q := 313) dL_law_312 rfl ?_
    refine g_if_eq (q := 316) (t := 318) dL_law_313 rfl (by decide) (fun _ => ?_) (fun c => absurd (by rw [hU c_303]; exact lw_lc _) c)
    refine g_goto (q := 2172) dL_law_318 (by decide) ?_
    refine g_lvs (lv1 := [(5, .int (nI i)), (4, .ref (o + 424)), (3, .ref (o + 423)), (2, .ref (o + 407)), (1, .ref o), (0, .ref b)]) ⟨rfl, rfl, rfl, rfl, rfl, rfl, trivial⟩ ?_
    exact kk _ _ _ _ _ _ _ hJ
set_option maxRecDepth 20000 in
set_option maxHeartbeats 1000000 in
theorem lb_2 {l : Launch} {E : bz_E} {z0 : Nat} {s0 : State} {b N : Nat} {xs : Nat → Int32} {sz k n : Nat} {L : List Nat} {g : Nat → va_E} {o i : Nat} {A : WA} {I : Nat → Int32} {B : Nat → Nat → Int32} {U : Nat → Int64} {V : Nat → UInt64} (hl : l.stackTraces = false) (hX : va_X b N xs s0 s0.heap) (hbl : b < s0.heap.size) (hN : N ≤ 3072) (hi : i + 6 ≤ N) (hJ : lw_J E L g o A I B U V) (hkc : k + 1 ≤ 601024) (hns : n + 6 ≤ 7293034) (kk : ∀ (g1 : Nat → va_E) (z1 : Nat) (A1 : WA) (I1 : Nat → Int32) (B1 : Nat → Nat → Int32) (U1 : Nat → Int64) (V1 : Nat → UInt64), lw_J E L g1 o A1 I1 B1 U1 V1 → bz_G l E mL_law room_1 [] z0 (lw_F s0 b) z1 (k + 1) (n + 6) L g1 2172 [(5, .int (nI i)), (4, .ref (o + 424)), (3, .ref (o + 423)), (2, .ref (o + 407)), (1, .ref o), (0, .ref b)] []) : bz_G l E mL_law room_1 [] z0 (lw_F s0 b) sz k n L g 321 [(5, .int (nI i)), (4, .ref (o + 424)), (3, .ref (o + 423)), (2, .ref (o + 407)), (1, .ref o), (0, .ref b)] [] := by
  obtain ⟨d2, hd2, hK1⟩ := pn_errorPosition hl hJ 
  obtain ⟨hoL, fso, hog⟩ := lw_m8 hJ.1
  refine g_widen (k1 := k + 1) (n1 := n + 6) (by omega) (by omega) ?_
  refine g_aload_n (q := 322) dL_law_321 rfl rfl ?_
  refine gl_callV (q := 325) dL_law_322 rfl kv_L_119 rfl hK1 (by show d2 < 2048; omega) (by show 64 * d2 + 64 ≤ 84000; omega) hoL hog rfl (bz_le rfl) hkc hns (fun r g1 hQ => ?_)
  obtain ⟨v, rfl, ⟨hmL, fsm, hmg⟩, d3, hd3, hK2⟩ := hQ
  refine g_aload_n (q := 326) dL_law_325 rfl rfl ?_
  refine gl_callV (q := 329) dL_law_326 rfl kv_L_122 rfl hK2 (by show d3 < 2048; omega) (by show 64 * d3 + 64 ≤ 84000; omega) hmL hmg rfl (bz_le rfl) hkc hns (fun r g2 hQ => ?_)
  obtain ⟨rfl, A1, I1, B1, U1, V1, hJ⟩ := hQ
  refine g_icmp_eq (q := 332) (t := 2172) dL_law_329 rfl (by decide) (fun _ => ?_) (fun c => absurd (rfl) c)
  refine g_lvs (lv1 := [(5, .int (nI i)), (4, .ref (o + 424)), (3, .ref (o + 423)), (2, .ref (o + 407)), (1, .ref o), (0, .ref b)]) ⟨rfl, rfl, rfl, rfl, rfl, rfl, trivial⟩ ?_
  exact kk _ _ _ _ _ _ _ hJ
set_option maxRecDepth 20000 in
set_option maxHeartbeats 1000000 in
theorem lb_3 {l : Launch} {E : bz_E} {z0 : Nat} {s0 : State} {b N : Nat} {xs : Nat → Int32} {sz k n : Nat} {L : List Nat} {g : Nat → va_E} {o i : Nat} {A : WA} {I : Nat → Int32} {B : Nat → Nat → Int32} {U : Nat → Int64} {V : Nat → UInt64} (hl : l.stackTraces = false) (hX : va_X b N xs s0 s0.heap) (hbl : b < s0.heap.size) (hN : N ≤ 3072) (hi : i + 6 ≤ N) (hJ : lw_J E L g o A I B U V) (hkc : k + 1 ≤ 601024) (hns : n + 6 ≤ 7293034) (kk : ∀ (g1 : Nat → va_E) (z1 : Nat) (A1 : WA) (I1 : Nat → Int32) (B1 : Nat → Nat → Int32) (U1 : Nat → Int64) (V1 : Nat → UInt64), lw_J E L g1 o A1 I1 B1 U1 V1 → bz_G l E mL_law room_1 [] z0 (lw_F s0 b) z1 (k + 1) (n + 6) L g1 2172 [(5, .int (nI i)), (4, .ref (o + 424)), (3, .ref (o + 423)), (2, .ref (o + 407)), (1, .ref o), (0, .ref b)] []) : bz_G l E mL_law room_1 [] z0 (lw_F s0 b) sz k n L g 334 [(5, .int (nI i)), (4, .ref (o + 424)), (3, .ref (o + 423)), (2, .ref (o + 407)), (1, .ref o), (0, .ref b)] [] := by
  obtain ⟨d2, hd2, hK1⟩ := pn_tick hl hJ 
  obtain ⟨hoL, fso, hog⟩ := lw_m8 hJ.1
  refine g_widen (k1 := k + 1) (n1 := n + 6) (by omega) (by omega) ?_
  refine g_aload_n (q := 335) dL_law_334 rfl rfl ?_
  refine gl_callV (q := 338) dL_law_335 rfl kv_L_123 rfl hK1 (by show d2 < 2048; omega) (by show 64 * d2 + 64 ≤ 84000; omega) hoL hog rfl (bz_le rfl) hkc hns (fun r g1 hQ => ?_)
  obtain ⟨v, rfl, ⟨hmL, fsm, hmg⟩, d3, hd3, hK2⟩ := hQ
  refine g_aload_n (q := 339) dL_law_338 rfl rfl ?_
  refine gl_callV (q := 342) dL_law_339 rfl kv_L_126 rfl hK2 (by show d3 < 2048; omega) (by show 64 * d3 + 64 ≤ 84000; omega) hmL hmg rfl (bz_le rfl) hkc hns (fun r g2 hQ => ?_)
  obtain ⟨rfl, A1, I1, B1, U1, V1, hJ⟩ := hQ
  refine g_icmp_eq (q := 345) (t := 2172) dL_law_342 rfl (by decide) (fun _ => ?_) (fun c => absurd (rfl) c)
  refine g_lvs (lv1 := [(5, .int (nI i)), (4, .ref (o + 424)), (3, .ref (o + 423)), (2, .ref (o + 407)), (1, .ref o), (0, .ref b)]) ⟨rfl, rfl, rfl, rfl, rfl, rfl, trivial⟩ ?_
  exact kk _ _ _ _ _ _ _ hJ
set_option maxRecDepth 20000 in
set_option maxHeartbeats 1000000 in
theorem lb_4 {l : Launch} {E : bz_E} {z0 : Nat} {s0 : State} {b N : Nat} {xs : Nat → Int32} {sz k n : Nat} {L : List Nat} {g : Nat → va_E} {o i : Nat} {A : WA} {I : Nat → Int32} {B : Nat → Nat → Int32} {U : Nat → Int64} {V : Nat → UInt64} (hl : l.stackTraces = false) (hX : va_X b N xs s0 s0.heap) (hbl : b < s0.heap.size) (hN : N ≤ 3072) (hi : i + 6 ≤ N) (hJ : lw_J E L g o A I B U V) (hkc : k + 1 ≤ 601024) (hns : n + 6 ≤ 7293034) (kk : ∀ (g1 : Nat → va_E) (z1 : Nat) (A1 : WA) (I1 : Nat → Int32) (B1 : Nat → Nat → Int32) (U1 : Nat → Int64) (V1 : Nat → UInt64), lw_J E L g1 o A1 I1 B1 U1 V1 → bz_G l E mL_law room_1 [] z0 (lw_F s0 b) z1 (k + 1) (n + 6) L g1 2172 [(5, .int (nI i)), (4, .ref (o + 424)), (3, .ref (o + 423)), (2, .ref (o + 407)), (1, .ref o), (0, .ref b)] []) : bz_G l E mL_law room_1 [] z0 (lw_F s0 b) sz k n L g 347 [(5, .int (nI i)), (4, .ref (o + 424)), (3, .ref (o + 423)), (2, .ref (o + 407)), (1, .ref o), (0, .ref b)] [] := by
  by_cases hz : xs (i + 3) = 0
  ·
    refine g_aload_n (q := 348) dL_law_347 rfl rfl ?_
    refine g_aload_n (q := 349) dL_law_348 rfl rfl ?_
    refine g_iload (q := 351) dL_law_349 rfl rfl ?_
    refine g_iconst (q := 352) (v := (nI 1)) dL_law_351 rfl (by decide) ?_
    refine g_iaddN (q := 353) dL_law_352 rfl ?_
    refine gz_ld (q := 354) hX hbl hN (by omega) dL_law_353 rfl ?_
    refine g_aload_n (q := 355) dL_law_354 rfl rfl ?_
    refine g_iload (q := 357) dL_law_355 rfl rfl ?_
    refine g_iconst (q := 358) (v := (nI 2)) dL_law_357 rfl (by decide) ?_
    refine g_iaddN (q := 359) dL_law_358 rfl ?_
    refine gz_ld (q := 360) hX hbl hN (by omega) dL_law_359 rfl ?_
    refine g_aload_n (q := 361) dL_law_360 rfl rfl ?_
    refine g_iload (q := 363) dL_law_361 rfl rfl ?_
    refine g_iconst (q := 364) (v := (nI 3)) dL_law_363 rfl (by decide) ?_
    refine g_iaddN (q := 365) dL_law_364 rfl ?_
    refine gz_ld (q := 366) hX hbl hN (by omega) dL_law_365 rfl ?_
    refine g_if_eq (q := 369) (t := 373) dL_law_366 rfl (by decide) (fun _ => ?_) (fun c => absurd (hz) c)
    refine g_iconst (q := 374) (v := (nI 0)) dL_law_373 rfl (by decide) ?_
    refine g_eqi (v := tB false) (by decide) ?_
    refine g_aload_n (q := 375) dL_law_374 rfl rfl ?_
    refine gl_callH (q := 378) dL_law_375 rfl kh_L_127 rfl (pr_mayPass hl hJ (xs (i + 1)) (xs (i + 2)) false) (by decide) (by decide) rfl (bz_le rfl) hkc hns (fun r g1 z1 hz1 hQ => ?_)
    obtain ⟨k9, hk9, rfl, ⟨hmL, fsm, hmg⟩, d2, hd2, hK2⟩ := hQ
    refine g_istore (q := 380) dL_law_378 rfl (by decide) rfl ?_
    refine g_aload_n (q := 381) dL_law_380 rfl rfl ?_
    refine g_aload_n (q := 382) dL_law_381 rfl rfl ?_
    refine g_iload (q := 384) dL_law_382 rfl rfl ?_
    refine g_iconst (q := 385) (v := (nI 1)) dL_law_384 rfl (by decide) ?_
    refine g_iaddN (q := 386) dL_law_385 rfl ?_
    refine gz_ld (q := 387) hX hbl hN (by omega) dL_law_386 rfl ?_
    refine g_aload_n (q := 388) dL_law_387 rfl rfl ?_
    refine g_iload (q := 390) dL_law_388 rfl rfl ?_
    refine g_iconst (q := 391) (v := (nI 2)) dL_law_390 rfl (by decide) ?_
    refine g_iaddN (q := 392) dL_law_391 rfl ?_
    refine gz_ld (q := 393) hX hbl hN (by omega) dL_law_392 rfl ?_
    refine g_aload_n (q := 394) dL_law_393 rfl rfl ?_
    refine g_iload (q := 396) dL_law_394 rfl rfl ?_
    refine g_iconst (q := 397) (v := (nI 3)) dL_law_396 rfl (by decide) ?_
    refine g_iaddN (q := 398) dL_law_397 rfl ?_
    refine gz_ld (q := 399) hX hbl hN (by omega) dL_law_398 rfl ?_
    refine g_if_eq (q := 402) (t := 406) dL_law_399 rfl (by decide) (fun _ => ?_) (fun c => absurd (hz) c)
    refine g_iconst (q := 407) (v := (nI 0)) dL_law_406 rfl (by decide) ?_
    refine g_eqi (v := tB false) (by decide) ?_
    refine gl_callV (q := 410) dL_law_407 rfl kv_L_130 rfl hK2 (by show d2 < 2048; omega) (by show 64 * d2 + 64 ≤ 84000; omega) hmL hmg rfl (bz_le rfl) hkc hns (fun r g2 hQ => ?_)
    obtain ⟨v, rfl, A1, I1, B1, U1, V1, hJ, hI, hU⟩ := hQ
    obtain ⟨hmL2, fsm2, hmg2⟩ := lw_m9 hJ.2.1
    refine g_istore (q := 412) dL_law_410 rfl (by decide) rfl ?_
    refine g_aload_n (q := 413) dL_law_412 rfl rfl ?_
    refine gl_callV (q := 416) dL_law_413 rfl kv_L_115 rfl (c_mthrown hJ.2.1) (by decide) (by decide) hmL2 hmg2 rfl (bz_le rfl) hkc hns (fun r g3 hQ => ?_)
    obtain ⟨rfl, hg9⟩ := hQ
    have hg9 := hg9.symm
    subst hg9
    have hB := bz_B.rf (bz_W.one hJ.2.2.1)
    refine g_iload (q := 418) dL_law_416 rfl rfl ?_
    refine g_icmp_eq (q := 421) (t := 423) dL_law_418 rfl (by decide) (fun _ => ?_) (fun c => absurd (hI) c)
    refine g_iload (q := 425) dL_law_423 rfl rfl ?_
    refine g_ifN_ne (q := 428) (t := 447) dL_law_425 rfl (by decide) (by omega) (fun c_425 => ?_) (fun c_425 => ?_)
    · refine g_goto (q := 2172) dL_law_447 (by decide) ?_
      refine g_lvs (lv1 := [(5, .int (nI i)), (4, .ref (o + 424)), (3, .ref (o + 423)), (2, .ref (o + 407)), (1, .ref o), (0, .ref b)]) ⟨rfl, rfl, rfl, rfl, rfl, rfl, trivial⟩ ?_
      exact kk _ _ _ _ _ _ _ hJ
    · refine g_aload_n (q := 429) dL_law_428 rfl rfl ?_
      refine g_iconst (q := 430) (v := (nI 0)) dL_law_429 rfl (by decide) ?_
      refine gb_laldN (q := 431) (j := 0) (i := 0) dL_law_430 rfl hB rfl rfl rfl (by omega) (by decide) ?_
      refine g_iload (q := 433) dL_law_431 rfl rfl ?_
      refine g_if_eq (q := 436) (t := 440) dL_law_433 rfl (by decide) (fun c_433 => ?_) (fun c_433 => ?_)
      · refine g_lconst (q := 441) (v := 0) dL_law_440 rfl (by decide) ?_
        refine g_lcmp (q := 442) dL_law_441 rfl ?_
        refine g_if_eq (q := 445) (t := 447) dL_law_442 rfl (by decide) (fun _ => ?_) (fun c => absurd (by rw [hU c_425]; first | exact lw_z0 c_433 | exact lw_z1 c_433) c)
        refine g_goto (q := 2172) dL_law_447 (by decide) ?_
        refine g_lvs (lv1 := [(5, .int (nI i)), (4, .ref (o + 424)), (3, .ref (o + 423)), (2, .ref (o + 407)), (1, .ref o), (0, .ref b)]) ⟨rfl, rfl, rfl, rfl, rfl, rfl, trivial⟩ ?_
        exact kk _ _ _ _ _ _ _ hJ
      · refine g_lconst (q := 437) (v := 1) dL_law_436 rfl (by decide) ?_
        refine g_goto (q := 441) dL_law_437 (by decide) ?_
        refine g_lcmp (q := 442) dL_law_441 rfl ?_
        refine g_if_eq (q := 445) (t := 447) dL_law_442 rfl (by decide) (fun _ => ?_) (fun c => absurd (by rw [hU c_425]; first | exact lw_z0 c_433 | exact lw_z1 c_433) c)
        refine g_goto (q := 2172) dL_law_447 (by decide) ?_
        refine g_lvs (lv1 := [(5, .int (nI i)), (4, .ref (o + 424)), (3, .ref (o + 423)), (2, .ref (o + 407)), (1, .ref o), (0, .ref b)]) ⟨rfl, rfl, rfl, rfl, rfl, rfl, trivial⟩ ?_
        exact kk _ _ _ _ _ _ _ hJ
  ·
    refine g_aload_n (q := 348) dL_law_347 rfl rfl ?_
    refine g_aload_n (q := 349) dL_law_348 rfl rfl ?_
    refine g_iload (q := 351) dL_law_349 rfl rfl ?_
    refine g_iconst (q := 352) (v := (nI 1)) dL_law_351 rfl (by decide) ?_
    refine g_iaddN (q := 353) dL_law_352 rfl ?_
    refine gz_ld (q := 354) hX hbl hN (by omega) dL_law_353 rfl ?_
    refine g_aload_n (q := 355) dL_law_354 rfl rfl ?_
    refine g_iload (q := 357) dL_law_355 rfl rfl ?_
    refine g_iconst (q := 358) (v := (nI 2)) dL_law_357 rfl (by decide) ?_
    refine g_iaddN (q := 359) dL_law_358 rfl ?_
    refine gz_ld (q := 360) hX hbl hN (by omega) dL_law_359 rfl ?_
    refine g_aload_n (q := 361) dL_law_360 rfl rfl ?_
    refine g_iload (q := 363) dL_law_361 rfl rfl ?_
    refine g_iconst (q := 364) (v := (nI 3)) dL_law_363 rfl (by decide) ?_
    refine g_iaddN (q := 365) dL_law_364 rfl ?_
    refine gz_ld (q := 366) hX hbl hN (by omega) dL_law_365 rfl ?_
    refine g_if_eq (q := 369) (t := 373) dL_law_366 rfl (by decide) (fun c => absurd c (hz)) (fun _ => ?_)
    refine g_iconst (q := 370) (v := (nI 1)) dL_law_369 rfl (by decide) ?_
    refine g_eqi (v := tB true) (by decide) ?_
    refine g_goto (q := 374) dL_law_370 (by decide) ?_
    refine g_aload_n (q := 375) dL_law_374 rfl rfl ?_
    refine gl_callH (q := 378) dL_law_375 rfl kh_L_127 rfl (pr_mayPass hl hJ (xs (i + 1)) (xs (i + 2)) true) (by decide) (by decide) rfl (bz_le rfl) hkc hns (fun r g1 z1 hz1 hQ => ?_)
    obtain ⟨k9, hk9, rfl, ⟨hmL, fsm, hmg⟩, d2, hd2, hK2⟩ := hQ
    refine g_istore (q := 380) dL_law_378 rfl (by decide) rfl ?_
    refine g_aload_n (q := 381) dL_law_380 rfl rfl ?_
    refine g_aload_n (q := 382) dL_law_381 rfl rfl ?_
    refine g_iload (q := 384) dL_law_382 rfl rfl ?_
    refine g_iconst (q := 385) (v := (nI 1)) dL_law_384 rfl (by decide) ?_
    refine g_iaddN (q := 386) dL_law_385 rfl ?_
    refine gz_ld (q := 387) hX hbl hN (by omega) dL_law_386 rfl ?_
    refine g_aload_n (q := 388) dL_law_387 rfl rfl ?_
    refine g_iload (q := 390) dL_law_388 rfl rfl ?_
    refine g_iconst (q := 391) (v := (nI 2)) dL_law_390 rfl (by decide) ?_
    refine g_iaddN (q := 392) dL_law_391 rfl ?_
    refine gz_ld (q := 393) hX hbl hN (by omega) dL_law_392 rfl ?_
    refine g_aload_n (q := 394) dL_law_393 rfl rfl ?_
    refine g_iload (q := 396) dL_law_394 rfl rfl ?_
    refine g_iconst (q := 397) (v := (nI 3)) dL_law_396 rfl (by decide) ?_
    refine g_iaddN (q := 398) dL_law_397 rfl ?_
    refine gz_ld (q := 399) hX hbl hN (by omega) dL_law_398 rfl ?_
    refine g_if_eq (q := 402) (t := 406) dL_law_399 rfl (by decide) (fun c => absurd c (hz)) (fun _ => ?_)
    refine g_iconst (q := 403) (v := (nI 1)) dL_law_402 rfl (by decide) ?_
    refine g_eqi (v := tB true) (by decide) ?_
    refine g_goto (q := 407) dL_law_403 (by decide) ?_
    refine gl_callV (q := 410) dL_law_407 rfl kv_L_130 rfl hK2 (by show d2 < 2048; omega) (by show 64 * d2 + 64 ≤ 84000; omega) hmL hmg rfl (bz_le rfl) hkc hns (fun r g2 hQ => ?_)
    obtain ⟨v, rfl, A1, I1, B1, U1, V1, hJ, hI, hU⟩ := hQ
    obtain ⟨hmL2, fsm2, hmg2⟩ := lw_m9 hJ.2.1
    refine g_istore (q := 412) dL_law_410 rfl (by decide) rfl ?_
    refine g_aload_n (q := 413) dL_law_412 rfl rfl ?_
    refine gl_callV (q := 416) dL_law_413 rfl kv_L_115 rfl (c_mthrown hJ.2.1) (by decide) (by decide) hmL2 hmg2 rfl (bz_le rfl) hkc hns (fun r g3 hQ => ?_)
    obtain ⟨rfl, hg9⟩ := hQ
    have hg9 := hg9.symm
    subst hg9
    have hB := bz_B.rf (bz_W.one hJ.2.2.1)
    refine g_iload (q := 418) dL_law_416 rfl rfl ?_
    refine g_icmp_eq (q := 421) (t := 423) dL_law_418 rfl (by decide) (fun _ => ?_) (fun c => absurd (hI) c)
    refine g_iload (q := 425) dL_law_423 rfl rfl ?_
    refine g_ifN_ne (q := 428) (t := 447) dL_law_425 rfl (by decide) (by omega) (fun c_425 => ?_) (fun c_425 => ?_)
    · refine g_goto (q := 2172) dL_law_447 (by decide) ?_
      refine g_lvs (lv1 := [(5, .int (nI i)), (4, .ref (o + 424)), (3, .ref (o + 423)), (2, .ref (o + 407)), (1, .ref o), (0, .ref b)]) ⟨rfl, rfl, rfl, rfl, rfl, rfl, trivial⟩ ?_
      exact kk _ _ _ _ _ _ _ hJ
    · refine g_aload_n (q := 429) dL_law_428 rfl rfl ?_
      refine g_iconst (q := 430) (v := (nI 0)) dL_law_429 rfl (by decide) ?_
      refine gb_laldN (q := 431) (j := 0) (i := 0) dL_law_430 rfl hB rfl rfl rfl (by omega) (by decide) ?_
      refine g_iload (q := 433) dL_law_431 rfl rfl ?_
      refine g_if_eq (q := 436) (t := 440) dL_law_433 rfl (by decide) (fun c_433 => ?_) (fun c_433 => ?_)
      · refine g_lconst (q := 441) (v := 0) dL_law_440 rfl (by decide) ?_
        refine g_lcmp (q := 442) dL_law_441 rfl ?_
        refine g_if_eq (q := 445) (t := 447) dL_law_442 rfl (by decide) (fun _ => ?_) (fun c => absurd (by rw [hU c_425]; first | exact lw_z0 c_433 | exact lw_z1 c_433) c)
        refine g_goto (q := 2172) dL_law_447 (by decide) ?_
        refine g_lvs (lv1 := [(5, .int (nI i)), (4, .ref (o + 424)), (3, .ref (o + 423)), (2, .ref (o + 407)), (1, .ref o), (0, .ref b)]) ⟨rfl, rfl, rfl, rfl, rfl, rfl, trivial⟩ ?_
        exact kk _ _ _ _ _ _ _ hJ
      · refine g_lconst (q := 437) (v := 1) dL_law_436 rfl (by decide) ?_
        refine g_goto (q := 441) dL_law_437 (by decide) ?_
        refine g_lcmp (q := 442) dL_law_441 rfl ?_
        refine g_if_eq (q := 445) (t := 447) dL_law_442 rfl (by decide) (fun _ => ?_) (fun c => absurd (by rw [hU c_425]; first | exact lw_z0 c_433 | exact lw_z1 c_433) c)
        refine g_goto (q := 2172) dL_law_447 (by decide) ?_
        refine g_lvs (lv1 := [(5, .int (nI i)), (4, .ref (o + 424)), (3, .ref (o + 423)), (2, .ref (o + 407)), (1, .ref o), (0, .ref b)]) ⟨rfl, rfl, rfl, rfl, rfl, rfl, trivial⟩ ?_
        exact kk _ _ _ _ _ _ _ hJ
set_option maxRecDepth 20000 in
set_option maxHeartbeats 1000000 in
theorem lb_5 {l : Launch} {E : bz_E} {z0 : Nat} {s0 : State} {b N : Nat} {xs : Nat → Int32} {sz k n : Nat} {L : List Nat} {g : Nat → va_E} {o i : Nat} {A : WA} {I : Nat → Int32} {B : Nat → Nat → Int32} {U : Nat → Int64} {V : Nat → UInt64} (hl : l.stackTraces = false) (hX : va_X b N xs s0 s0.heap) (hbl : b < s0.heap.size) (hN : N ≤ 3072) (hi : i + 6 ≤ N) (hJ : lw_J E L g o A I B U V) (hkc : k + 1 ≤ 601024) (hns : n + 6 ≤ 7293034) (kk : ∀ (g1 : Nat → va_E) (z1 : Nat) (A1 : WA) (I1 : Nat → Int32) (B1 : Nat → Nat → Int32) (U1 : Nat → Int64) (V1 : Nat → UInt64), lw_J E L g1 o A1 I1 B1 U1 V1 → bz_G l E mL_law room_1 [] z0 (lw_F s0 b) z1 (k + 1) (n + 6) L g1 2172 [(5, .int (nI i)), (4, .ref (o + 424)), (3, .ref (o + 423)), (2, .ref (o + 407)), (1, .ref o), (0, .ref b)] []) : bz_G l E mL_law room_1 [] z0 (lw_F s0 b) sz k n L g 450 [(5, .int (nI i)), (4, .ref (o + 424)), (3, .ref (o + 423)), (2, .ref (o + 407)), (1, .ref o), (0, .ref b)] [] := by
  obtain ⟨d2, hd2, hK1⟩ := pn_isSafe hl hJ 
  obtain ⟨hoL, fso, hog⟩ := lw_m8 hJ.1
  refine g_widen (k1 := k + 1) (n1 := n + 6) (by omega) (by omega) ?_
  refine g_aload_n (q := 451) dL_law_450 rfl rfl ?_
  refine gl_callV (q := 454) dL_law_451 rfl kv_L_131 rfl hK1 (by show d2 < 2048; omega) (by show 64 * d2 + 64 ≤ 84000; omega) hoL hog rfl (bz_le rfl) hkc hns (fun r g1 hQ => ?_)
  obtain ⟨v, rfl, ⟨hmL, fsm, hmg⟩, d3, hd3, hK2⟩ := hQ
  refine g_aload_n (q := 455) dL_law_454 rfl rfl ?_
  refine gl_callV (q := 458) dL_law_455 rfl kv_L_135 rfl hK2 (by show d3 < 2048; omega) (by show 64 * d3 + 64 ≤ 84000; omega) hmL hmg rfl (bz_le rfl) hkc hns (fun r g2 hQ => ?_)
  obtain ⟨rfl, A1, I1, B1, U1, V1, hJ⟩ := hQ
  refine g_icmp_eq (q := 461) (t := 2172) dL_law_458 rfl (by decide) (fun _ => ?_) (fun c => absurd (rfl) c)
  refine g_lvs (lv1 := [(5, .int (nI i)), (4, .ref (o + 424)), (3, .ref (o + 423)), (2, .ref (o + 407)), (1, .ref o), (0, .ref b)]) ⟨rfl, rfl, rfl, rfl, rfl, rfl, trivial⟩ ?_
  exact kk _ _ _ _ _ _ _ hJ
set_option maxRecDepth 20000 in
set_option maxHeartbeats 1000000 in
theorem lb_6 {l : Launch} {E : bz_E} {z0 : Nat} {s0 : State} {b N : Nat} {xs : Nat → Int32} {sz k n : Nat} {L : List Nat} {g : Nat → va_E} {o i : Nat} {A : WA} {I : Nat → Int32} {B : Nat → Nat → Int32} {U : Nat → Int64} {V : Nat → UInt64} (hl : l.stackTraces = false) (hX : va_X b N xs s0 s0.heap) (hbl : b < s0.heap.size) (hN : N ≤ 3072) (hi : i + 6 ≤ N) (hJ : lw_J E L g o A I B U V) (hkc : k + 1 ≤ 601024) (hns : n + 6 ≤ 7293034) (kk : ∀ (g1 : Nat → va_E) (z1 : Nat) (A1 : WA) (I1 : Nat → Int32) (B1 : Nat → Nat → Int32) (U1 : Nat → Int64) (V1 : Nat → UInt64), lw_J E L g1 o A1 I1 B1 U1 V1 → bz_G l E mL_law room_1 [] z0 (lw_F s0 b) z1 (k + 1) (n + 6) L g1 2172 [(5, .int (nI i)), (4, .ref (o + 424)), (3, .ref (o + 423)), (2, .ref (o + 407)), (1, .ref o), (0, .ref b)] []) : bz_G l E mL_law room_1 [] z0 (lw_F s0 b) sz k n L g 463 [(5, .int (nI i)), (4, .ref (o + 424)), (3, .ref (o + 423)), (2, .ref (o + 407)), (1, .ref o), (0, .ref b)] [] := by
  refine g_aload_n (q := 464) dL_law_463 rfl rfl ?_
  refine g_aload_n (q := 465) dL_law_464 rfl rfl ?_
  refine g_iload (q := 467) dL_law_465 rfl rfl ?_
  refine g_iconst (q := 468) (v := (nI 1)) dL_law_467 rfl (by decide) ?_
  refine g_iaddN (q := 469) dL_law_468 rfl ?_
  refine gz_ld (q := 470) hX hbl hN (by omega) dL_law_469 rfl ?_
  refine g_aload_n (q := 471) dL_law_470 rfl rfl ?_
  refine g_iload (q := 473) dL_law_471 rfl rfl ?_
  refine g_iconst (q := 474) (v := (nI 2)) dL_law_473 rfl (by decide) ?_
  refine g_iaddN (q := 475) dL_law_474 rfl ?_
  refine gz_ld (q := 476) hX hbl hN (by omega) dL_law_475 rfl ?_
  refine g_aload_n (q := 477) dL_law_476 rfl rfl ?_
  refine gl_callH (q := 480) dL_law_477 rfl kh_L_136 rfl (pr_holds hl hJ (xs (i + 1)) (xs (i + 2))) (by decide) (by decide) rfl (bz_le rfl) hkc hns (fun r g1 z1 hz1 hQ => ?_)
  obtain ⟨k9, hk9, rfl, ⟨hmL, fsm, hmg⟩, d2, hd2, hK2⟩ := hQ
  refine g_istore (q := 482) dL_law_480 rfl (by decide) rfl ?_
  refine g_aload_n (q := 483) dL_law_482 rfl rfl ?_
  refine g_aload_n (q := 484) dL_law_483 rfl rfl ?_
  refine g_iload (q := 486) dL_law_484 rfl rfl ?_
  refine g_iconst (q := 487) (v := (nI 1)) dL_law_486 rfl (by decide) ?_
  refine g_iaddN (q := 488) dL_law_487 rfl ?_
  refine gz_ld (q := 489) hX hbl hN (by omega) dL_law_488 rfl ?_
  refine g_aload_n (q := 490) dL_law_489 rfl rfl ?_
  refine g_iload (q := 492) dL_law_490 rfl rfl ?_
  refine g_iconst (q := 493) (v := (nI 2)) dL_law_492 rfl (by decide) ?_
  refine g_iaddN (q := 494) dL_law_493 rfl ?_
  refine gz_ld (q := 495) hX hbl hN (by omega) dL_law_494 rfl ?_
  refine gl_callV (q := 498) dL_law_495 rfl kv_L_139 rfl hK2 (by show d2 < 2048; omega) (by show 64 * d2 + 64 ≤ 84000; omega) hmL hmg rfl (bz_le rfl) hkc hns (fun r g2 hQ => ?_)
  obtain ⟨v, rfl, A1, I1, B1, U1, V1, hJ, hI, hU⟩ := hQ
  obtain ⟨hmL2, fsm2, hmg2⟩ := lw_m9 hJ.2.1
  refine g_istore (q := 500) dL_law_498 rfl (by decide) rfl ?_
  refine g_aload_n (q := 501) dL_law_500 rfl rfl ?_
  refine gl_callV (q := 504) dL_law_501 rfl kv_L_115 rfl (c_mthrown hJ.2.1) (by decide) (by decide) hmL2 hmg2 rfl (bz_le rfl) hkc hns (fun r g3 hQ => ?_)
  obtain ⟨rfl, hg9⟩ := hQ
  have hg9 := hg9.symm
  subst hg9
  have hB := bz_B.rf (bz_W.one hJ.2.2.1)
  refine g_iload (q := 506) dL_law_504 rfl rfl ?_
  refine g_icmp_eq (q := 509) (t := 511) dL_law_506 rfl (by decide) (fun _ => ?_) (fun c => absurd (hI) c)
  refine g_iload (q := 513) dL_law_511 rfl rfl ?_
  refine g_ifN_ne (q := 516) (t := 535) dL_law_513 rfl (by decide) (by omega) (fun c_513 => ?_) (fun c_513 => ?_)
  · refine g_goto (q := 2172) dL_law_535 (by decide) ?_
    refine g_lvs (lv1 := [(5, .int (nI i)), (4, .ref (o + 424)), (3, .ref (o + 423)), (2, .ref (o + 407)), (1, .ref o), (0, .ref b)]) ⟨rfl, rfl, rfl, rfl, rfl, rfl, trivial⟩ ?_
    exact kk _ _ _ _ _ _ _ hJ
  · refine g_aload_n (q := 517) dL_law_516 rfl rfl ?_
    refine g_iconst (q := 518) (v := (nI 0)) dL_law_517 rfl (by decide) ?_
    refine gb_laldN (q := 519) (j := 0) (i := 0) dL_law_518 rfl hB rfl rfl rfl (by omega) (by decide) ?_
    refine g_iload (q := 521) dL_law_519 rfl rfl ?_
    refine g_if_eq (q := 524) (t := 528) dL_law_521 rfl (by decide) (fun c_521 => ?_) (fun c_521 => ?_)
    · refine g_lconst (q := 529) (v := 0) dL_law_528 rfl (by decide) ?_
      refine g_lcmp (q := 530) dL_law_529 rfl ?_
      refine g_if_eq (q := 533) (t := 535) dL_law_530 rfl (by decide) (fun _ => ?_) (fun c => absurd (by rw [hU c_513]; first | exact lw_z0 c_521 | exact lw_z1 c_521) c)
      refine g_goto (q := 2172) dL_law_535 (by decide) ?_
      refine g_lvs (lv1 := [(5, .int (nI i)), (4, .ref (o + 424)), (3, .ref (o + 423)), (2, .ref (o + 407)), (1, .ref o), (0, .ref b)]) ⟨rfl, rfl, rfl, rfl, rfl, rfl, trivial⟩ ?_
      exact kk _ _ _ _ _ _ _ hJ
    · refine g_lconst (q := 525) (v := 1) dL_law_524 rfl (by decide) ?_
      refine g_goto (q := 529) dL_law_525 (by decide) ?_
      refine g_lcmp (q := 530) dL_law_529 rfl ?_
      refine g_if_eq (q := 533) (t := 535) dL_law_530 rfl (by decide) (fun _ => ?_) (fun c => absurd (by rw [hU c_513]; first | exact lw_z0 c_521 | exact lw_z1 c_521) c)
      refine g_goto (q := 2172) dL_law_535 (by decide) ?_
      refine g_lvs (lv1 := [(5, .int (nI i)), (4, .ref (o + 424)), (3, .ref (o + 423)), (2, .ref (o + 407)), (1, .ref o), (0, .ref b)]) ⟨rfl, rfl, rfl, rfl, rfl, rfl, trivial⟩ ?_
      exact kk _ _ _ _ _ _ _ hJ
set_option maxRecDepth 20000 in
set_option maxHeartbeats 1000000 in
theorem lb_7 {l : Launch} {E : bz_E} {z0 : Nat} {s0 : State} {b N : Nat} {xs : Nat → Int32} {sz k n : Nat} {L : List Nat} {g : Nat → va_E} {o i : Nat} {A : WA} {I : Nat → Int32} {B : Nat → Nat → Int32} {U : Nat → Int64} {V : Nat → UInt64} (hl : l.stackTraces = false) (hX : va_X b N xs s0 s0.heap) (hbl : b < s0.heap.size) (hN : N ≤ 3072) (hi : i + 6 ≤ N) (hJ : lw_J E L g o A I B U V) (hkc : k + 1 ≤ 601024) (hns : n + 6 ≤ 7293034) (kk : ∀ (g1 : Nat → va_E) (z1 : Nat) (A1 : WA) (I1 : Nat → Int32) (B1 : Nat → Nat → Int32) (U1 : Nat → Int64) (V1 : Nat → UInt64), lw_J E L g1 o A1 I1 B1 U1 V1 → bz_G l E mL_law room_1 [] z0 (lw_F s0 b) z1 (k + 1) (n + 6) L g1 2172 [(5, .int (nI i)), (4, .ref (o + 424)), (3, .ref (o + 423)), (2, .ref (o + 407)), (1, .ref o), (0, .ref b)] []) : bz_G l E mL_law room_1 [] z0 (lw_F s0 b) sz k n L g 538 [(5, .int (nI i)), (4, .ref (o + 424)), (3, .ref (o + 423)), (2, .ref (o + 407)), (1, .ref o), (0, .ref b)] [] := by
  refine g_aload_n (q := 539) dL_law_538 rfl rfl ?_
  refine g_aload_n (q := 540) dL_law_539 rfl rfl ?_
  refine g_iload (q := 542) dL_law_540 rfl rfl ?_
  refine g_iconst (q := 543) (v := (nI 1)) dL_law_542 rfl (by decide) ?_
  refine g_iaddN (q := 544) dL_law_543 rfl ?_
  refine gz_ld (q := 545) hX hbl hN (by omega) dL_law_544 rfl ?_
  refine g_aload_n (q := 546) dL_law_545 rfl rfl ?_
  refine gl_callH (q := 549) dL_law_546 rfl kh_L_140 rfl (pr_waiting hl hJ (xs (i + 1))) (by decide) (by decide) rfl (bz_le rfl) hkc hns (fun r g1 z1 hz1 hQ => ?_)
  obtain ⟨k9, hk9, rfl, ⟨hmL, fsm, hmg⟩, d2, hd2, hK2⟩ := hQ
  refine g_istore (q := 551) dL_law_549 rfl (by decide) rfl ?_
  refine g_aload_n (q := 552) dL_law_551 rfl rfl ?_
  refine g_aload_n (q := 553) dL_law_552 rfl rfl ?_
  refine g_iload (q := 555) dL_law_553 rfl rfl ?_
  refine g_iconst (q := 556) (v := (nI 1)) dL_law_555 rfl (by decide) ?_
  refine g_iaddN (q := 557) dL_law_556 rfl ?_
  refine gz_ld (q := 558) hX hbl hN (by omega) dL_law_557 rfl ?_
  refine gl_callV (q := 561) dL_law_558 rfl kv_L_142 rfl hK2 (by show d2 < 2048; omega) (by show 64 * d2 + 64 ≤ 84000; omega) hmL hmg rfl (bz_le rfl) hkc hns (fun r g2 hQ => ?_)
  obtain ⟨v, rfl, A1, I1, B1, U1, V1, hJ, hI, hU⟩ := hQ
  obtain ⟨hmL2, fsm2, hmg2⟩ := lw_m9 hJ.2.1
  refine g_istore (q := 563) dL_law_561 rfl (by decide) rfl ?_
  refine g_aload_n (q := 564) dL_law_563 rfl rfl ?_
  refine gl_callV (q := 567) dL_law_564 rfl kv_L_115 rfl (c_mthrown hJ.2.1) (by decide) (by decide) hmL2 hmg2 rfl (bz_le rfl) hkc hns (fun r g3 hQ => ?_)
  obtain ⟨rfl, hg9⟩ := hQ
  have hg9 := hg9.symm
  subst hg9
  have hB := bz_B.rf (bz_W.one hJ.2.2.1)
  refine g_iload (q := 569) dL_law_567 rfl rfl ?_
  refine g_icmp_eq (q := 572) (t := 574) dL_law_569 rfl (by decide) (fun _ => ?_) (fun c => absurd (hI) c)
  refine g_iload (q := 576) dL_law_574 rfl rfl ?_
  refine g_ifN_ne (q := 579) (t := 591) dL_law_576 rfl (by decide) (by omega) (fun c_576 => ?_) (fun c_576 => ?_)
  · refine g_goto (q := 2172) dL_law_591 (by decide) ?_
    refine g_lvs (lv1 := [(5, .int (nI i)), (4, .ref (o + 424)), (3, .ref (o + 423)), (2, .ref (o + 407)), (1, .ref o), (0, .ref b)]) ⟨rfl, rfl, rfl, rfl, rfl, rfl, trivial⟩ ?_
    exact kk _ _ _ _ _ _ _ hJ
  · refine g_aload_n (q := 580) dL_law_579 rfl rfl ?_
    refine g_iconst (q := 581) (v := (nI 0)) dL_law_580 rfl (by decide) ?_
    refine gb_laldN (q := 582) (j := 0) (i := 0) dL_law_581 rfl hB rfl rfl rfl (by omega) (by decide) ?_
    refine g_iload (q := 584) dL_law_582 rfl rfl ?_
    refine g_i2l (q := 585) dL_law_584 rfl ?_
    refine g_lcmp (q := 586) dL_law_585 rfl ?_
    refine g_if_eq (q := 589) (t := 591) dL_law_586 rfl (by decide) (fun _ => ?_) (fun c => absurd (by rw [hU c_576]; exact lw_lc _) c)
    refine g_goto (q := 2172) dL_law_591 (by decide) ?_
    refine g_lvs (lv1 := [(5, .int (nI i)), (4, .ref (o + 424)), (3, .ref (o + 423)), (2, .ref (o + 407)), (1, .ref o), (0, .ref b)]) ⟨rfl, rfl, rfl, rfl, rfl, rfl, trivial⟩ ?_
    exact kk _ _ _ _ _ _ _ hJ
set_option maxRecDepth 20000 in
set_option maxHeartbeats 1000000 in
theorem lb_8 {l : Launch} {E : bz_E} {z0 : Nat} {s0 : State} {b N : Nat} {xs : Nat → Int32} {sz k n : Nat} {L : List Nat} {g : Nat → va_E} {o i : Nat} {A : WA} {I : Nat → Int32} {B : Nat → Nat → Int32} {U : Nat → Int64} {V : Nat → UInt64} (hl : l.stackTraces = false) (hX : va_X b N xs s0 s0.heap) (hbl : b < s0.heap.size) (hN : N ≤ 3072) (hi : i + 6 ≤ N) (hJ : lw_J E L g o A I B U V) (hkc : k + 1 ≤ 601024) (hns : n + 6 ≤ 7293034) (kk : ∀ (g1 : Nat → va_E) (z1 : Nat) (A1 : WA) (I1 : Nat → Int32) (B1 : Nat → Nat → Int32) (U1 : Nat → Int64) (V1 : Nat → UInt64), lw_J E L g1 o A1 I1 B1 U1 V1 → bz_G l E mL_law room_1 [] z0 (lw_F s0 b) z1 (k + 1) (n + 6) L g1 2172 [(5, .int (nI i)), (4, .ref (o + 424)), (3, .ref (o + 423)), (2, .ref (o + 407)), (1, .ref o), (0, .ref b)] []) : bz_G l E mL_law room_1 [] z0 (lw_F s0 b) sz k n L g 594 [(5, .int (nI i)), (4, .ref (o + 424)), (3, .ref (o + 423)), (2, .ref (o + 407)), (1, .ref o), (0, .ref b)] [] := by
  refine g_aload_n (q := 595) dL_law_594 rfl rfl ?_
  refine g_aload_n (q := 596) dL_law_595 rfl rfl ?_
  refine g_iload (q := 598) dL_law_596 rfl rfl ?_
  refine g_iconst (q := 599) (v := (nI 1)) dL_law_598 rfl (by decide) ?_
  refine g_iaddN (q := 600) dL_law_599 rfl ?_
  refine gz_ld (q := 601) hX hbl hN (by omega) dL_law_600 rfl ?_
  refine g_aload_n (q := 602) dL_law_601 rfl rfl ?_
  refine g_iload (q := 604) dL_law_602 rfl rfl ?_
  refine g_iconst (q := 605) (v := (nI 2)) dL_law_604 rfl (by decide) ?_
  refine g_iaddN (q := 606) dL_law_605 rfl ?_
  refine gz_ld (q := 607) hX hbl hN (by omega) dL_law_606 rfl ?_
  refine g_aload_n (q := 608) dL_law_607 rfl rfl ?_
  refine gl_callH (q := 611) dL_law_608 rfl kh_L_143 rfl (pr_kindAt hl hJ (xs (i + 1)) (xs (i + 2))) (by decide) (by decide) rfl (bz_le rfl) hkc hns (fun r g1 z1 hz1 hQ => ?_)
  obtain ⟨k9, hk9, rfl, ⟨hmL, fsm, hmg⟩, d2, hd2, hK2⟩ := hQ
  refine g_istore (q := 613) dL_law_611 rfl (by decide) rfl ?_
  refine g_aload_n (q := 614) dL_law_613 rfl rfl ?_
  refine g_aload_n (q := 615) dL_law_614 rfl rfl ?_
  refine g_iload (q := 617) dL_law_615 rfl rfl ?_
  refine g_iconst (q := 618) (v := (nI 1)) dL_law_617 rfl (by decide) ?_
  refine g_iaddN (q := 619) dL_law_618 rfl ?_
  refine gz_ld (q := 620) hX hbl hN (by omega) dL_law_619 rfl ?_
  refine g_aload_n (q := 621) dL_law_620 rfl rfl ?_
  refine g_iload (q := 623) dL_law_621 rfl rfl ?_
  refine g_iconst (q := 624) (v := (nI 2)) dL_law_623 rfl (by decide) ?_
  refine g_iaddN (q := 625) dL_law_624 rfl ?_
  refine gz_ld (q := 626) hX hbl hN (by omega) dL_law_625 rfl ?_
  refine gl_callV (q := 629) dL_law_626 rfl kv_L_145 rfl hK2 (by show d2 < 2048; omega) (by show 64 * d2 + 64 ≤ 84000; omega) hmL hmg rfl (bz_le rfl) hkc hns (fun r g2 hQ => ?_)
  obtain ⟨v, rfl, A1, I1, B1, U1, V1, hJ, hI, hU⟩ := hQ
  obtain ⟨hmL2, fsm2, hmg2⟩ := lw_m9 hJ.2.1
  refine g_istore (q := 631) dL_law_629 rfl (by decide) rfl ?_
  refine g_aload_n (q := 632) dL_law_631 rfl rfl ?_
  refine gl_callV (q := 635) dL_law_632 rfl kv_L_115 rfl (c_mthrown hJ.2.1) (by decide) (by decide) hmL2 hmg2 rfl (bz_le rfl) hkc hns (fun r g3 hQ => ?_)
  obtain ⟨rfl, hg9⟩ := hQ
  have hg9 := hg9.symm
  subst hg9
  have hB := bz_B.rf (bz_W.one hJ.2.2.1)
  refine g_iload (q := 637) dL_law_635 rfl rfl ?_
  refine g_icmp_eq (q := 640) (t := 642) dL_law_637 rfl (by decide) (fun _ => ?_) (fun c => absurd (hI) c)
  refine g_iload (q := 644) dL_law_642 rfl rfl ?_
  refine g_ifN_ne (q := 647) (t := 659) dL_law_644 rfl (by decide) (by omega) (fun c_644 => ?_) (fun c_644 => ?_)
  · refine g_goto (q := 2172) dL_law_659 (by decide) ?_
    refine g_lvs (lv1 := [(5, .int (nI i)), (4, .ref (o + 424)), (3, .ref (o + 423)), (2, .ref (o + 407)), (1, .ref o), (0, .ref b)]) ⟨rfl, rfl, rfl, rfl, rfl, rfl, trivial⟩ ?_
    exact kk _ _ _ _ _ _ _ hJ
  · refine g_aload_n (q := 648) dL_law_647 rfl rfl ?_
    refine g_iconst (q := 649) (v := (nI 0)) dL_law_648 rfl (by decide) ?_
    refine gb_laldN (q := 650) (j := 0) (i := 0) dL_law_649 rfl hB rfl rfl rfl (by omega) (by decide) ?_
    refine g_iload (q := 652) dL_law_650 rfl rfl ?_
    refine g_i2l (q := 653) dL_law_652 rfl ?_
    refine g_lcmp (q := 654) dL_law_653 rfl ?_
    refine g_if_eq (q := 657) (t := 659) dL_law_654 rfl (by decide) (fun _ => ?_) (fun c => absurd (by rw [hU c_644]; exact lw_lc _) c)
    refine g_goto (q := 2172) dL_law_659 (by decide) ?_
    refine g_lvs (lv1 := [(5, .int (nI i)), (4, .ref (o + 424)), (3, .ref (o + 423)), (2, .ref (o + 407)), (1, .ref o), (0, .ref b)]) ⟨rfl, rfl, rfl, rfl, rfl, rfl, trivial⟩ ?_
    exact kk _ _ _ _ _ _ _ hJ
set_option maxRecDepth 20000 in
set_option maxHeartbeats 1000000 in
theorem lb_9 {l : Launch} {E : bz_E} {z0 : Nat} {s0 : State} {b N : Nat} {xs : Nat → Int32} {sz k n : Nat} {L : List Nat} {g : Nat → va_E} {o i : Nat} {A : WA} {I : Nat → Int32} {B : Nat → Nat → Int32} {U : Nat → Int64} {V : Nat → UInt64} (hl : l.stackTraces = false) (hX : va_X b N xs s0 s0.heap) (hbl : b < s0.heap.size) (hN : N ≤ 3072) (hi : i + 6 ≤ N) (hJ : lw_J E L g o A I B U V) (hkc : k + 1 ≤ 601024) (hns : n + 6 ≤ 7293034) (kk : ∀ (g1 : Nat → va_E) (z1 : Nat) (A1 : WA) (I1 : Nat → Int32) (B1 : Nat → Nat → Int32) (U1 : Nat → Int64) (V1 : Nat → UInt64), lw_J E L g1 o A1 I1 B1 U1 V1 → bz_G l E mL_law room_1 [] z0 (lw_F s0 b) z1 (k + 1) (n + 6) L g1 2172 [(5, .int (nI i)), (4, .ref (o + 424)), (3, .ref (o + 423)), (2, .ref (o + 407)), (1, .ref o), (0, .ref b)] []) : bz_G l E mL_law room_1 [] z0 (lw_F s0 b) sz k n L g 662 [(5, .int (nI i)), (4, .ref (o + 424)), (3, .ref (o + 423)), (2, .ref (o + 407)), (1, .ref o), (0, .ref b)] [] := by
  refine g_aload_n (q := 663) dL_law_662 rfl rfl ?_
  refine g_aload_n (q := 664) dL_law_663 rfl rfl ?_
  refine g_iload (q := 666) dL_law_664 rfl rfl ?_
  refine g_iconst (q := 667) (v := (nI 1)) dL_law_666 rfl (by decide) ?_
  refine g_iaddN (q := 668) dL_law_667 rfl ?_
  refine gz_ld (q := 669) hX hbl hN (by omega) dL_law_668 rfl ?_
  refine g_aload_n (q := 670) dL_law_669 rfl rfl ?_
  refine g_iload (q := 672) dL_law_670 rfl rfl ?_
  refine g_iconst (q := 673) (v := (nI 2)) dL_law_672 rfl (by decide) ?_
  refine g_iaddN (q := 674) dL_law_673 rfl ?_
  refine gz_ld (q := 675) hX hbl hN (by omega) dL_law_674 rfl ?_
  refine g_aload_n (q := 676) dL_law_675 rfl rfl ?_
  refine gl_callH (q := 679) dL_law_676 rfl kh_L_146 rfl (pr_tagAt hl hJ (xs (i + 1)) (xs (i + 2))) (by decide) (by decide) rfl (bz_le rfl) hkc hns (fun r g1 z1 hz1 hQ => ?_)
  obtain ⟨k9, hk9, rfl, ⟨hmL, fsm, hmg⟩, d2, hd2, hK2⟩ := hQ
  refine g_istore (q := 681) dL_law_679 rfl (by decide) rfl ?_
  refine g_aload_n (q := 682) dL_law_681 rfl rfl ?_
  refine g_aload_n (q := 683) dL_law_682 rfl rfl ?_
  refine g_iload (q := 685) dL_law_683 rfl rfl ?_
  refine g_iconst (q := 686) (v := (nI 1)) dL_law_685 rfl (by decide) ?_
  refine g_iaddN (q := 687) dL_law_686 rfl ?_
  refine gz_ld (q := 688) hX hbl hN (by omega) dL_law_687 rfl ?_
  refine g_aload_n (q := 689) dL_law_688 rfl rfl ?_
  refine g_iload (q := 691) dL_law_689 rfl rfl ?_
  refine g_iconst (q := 692) (v := (nI 2)) dL_law_691 rfl (by decide) ?_
  refine g_iaddN (q := 693) dL_law_692 rfl ?_
  refine gz_ld (q := 694) hX hbl hN (by omega) dL_law_693 rfl ?_
  refine gl_callV (q := 697) dL_law_694 rfl kv_L_148 rfl hK2 (by show d2 < 2048; omega) (by show 64 * d2 + 64 ≤ 84000; omega) hmL hmg rfl (bz_le rfl) hkc hns (fun r g2 hQ => ?_)
  obtain ⟨v, rfl, A1, I1, B1, U1, V1, hJ, hI, hU⟩ := hQ
  obtain ⟨hmL2, fsm2, hmg2⟩ := lw_m9 hJ.2.1
  refine g_istore (q := 699) dL_law_697 rfl (by decide) rfl ?_
  refine g_aload_n (q := 700) dL_law_699 rfl rfl ?_
  refine gl_callV (q := 703) dL_law_700 rfl kv_L_115 rfl (c_mthrown hJ.2.1) (by decide) (by decide) hmL2 hmg2 rfl (bz_le rfl) hkc hns (fun r g3 hQ => ?_)
  obtain ⟨rfl, hg9⟩ := hQ
  have hg9 := hg9.symm
  subst hg9
  have hB := bz_B.rf (bz_W.one hJ.2.2.1)
  refine g_iload (q := 705) dL_law_703 rfl rfl ?_
  refine g_icmp_eq (q := 708) (t := 710) dL_law_705 rfl (by decide) (fun _ => ?_) (fun c => absurd (hI) c)
  refine g_iload (q := 712) dL_law_710 rfl rfl ?_
  refine g_ifN_ne (q := 715) (t := 727) dL_law_712 rfl (by decide) (by omega) (fun c_712 => ?_) (fun c_712 => ?_)
  · refine g_goto (q := 2172) dL_law_727 (by decide) ?_
    refine g_lvs (lv1 := [(5, .int (nI i)), (4, .ref (o + 424)), (3, .ref (o + 423)), (2, .ref (o + 407)), (1, .ref o), (0, .ref b)]) ⟨rfl, rfl, rfl, rfl, rfl, rfl, trivial⟩ ?_
    exact kk _ _ _ _ _ _ _ hJ
  · refine g_aload_n (q := 716) dL_law_715 rfl rfl ?_
    refine g_iconst (q := 717) (v := (nI 0)) dL_law_716 rfl (by decide) ?_
    refine gb_laldN (q := 718) (j := 0) (i := 0) dL_law_717 rfl hB rfl rfl rfl (by omega) (by decide) ?_
    refine g_iload (q := 720) dL_law_718 rfl rfl ?_
    refine g_i2l (q := 721) dL_law_720 rfl ?_
    refine g_lcmp (q := 722) dL_law_721 rfl ?_
    refine g_if_eq (q := 725) (t := 727) dL_law_722 rfl (by decide) (fun _ => ?_) (fun c => absurd (by rw [hU c_712]; exact lw_lc _) c)
    refine g_goto (q := 2172) dL_law_727 (by decide) ?_
    refine g_lvs (lv1 := [(5, .int (nI i)), (4, .ref (o + 424)), (3, .ref (o + 423)), (2, .ref (o + 407)), (1, .ref o), (0, .ref b)]) ⟨rfl, rfl, rfl, rfl, rfl, rfl, trivial⟩ ?_
    exact kk _ _ _ _ _ _ _ hJ
set_option maxRecDepth 20000 in
set_option maxHeartbeats 1000000 in
theorem lb_10 {l : Launch} {E : bz_E} {z0 : Nat} {s0 : State} {b N : Nat} {xs : Nat → Int32} {sz k n : Nat} {L : List Nat} {g : Nat → va_E} {o i : Nat} {A : WA} {I : Nat → Int32} {B : Nat → Nat → Int32} {U : Nat → Int64} {V : Nat → UInt64} (hl : l.stackTraces = false) (hX : va_X b N xs s0 s0.heap) (hbl : b < s0.heap.size) (hN : N ≤ 3072) (hi : i + 6 ≤ N) (hJ : lw_J E L g o A I B U V) (hkc : k + 1 ≤ 601024) (hns : n + 6 ≤ 7293034) (kk : ∀ (g1 : Nat → va_E) (z1 : Nat) (A1 : WA) (I1 : Nat → Int32) (B1 : Nat → Nat → Int32) (U1 : Nat → Int64) (V1 : Nat → UInt64), lw_J E L g1 o A1 I1 B1 U1 V1 → bz_G l E mL_law room_1 [] z0 (lw_F s0 b) z1 (k + 1) (n + 6) L g1 2172 [(5, .int (nI i)), (4, .ref (o + 424)), (3, .ref (o + 423)), (2, .ref (o + 407)), (1, .ref o), (0, .ref b)] []) : bz_G l E mL_law room_1 [] z0 (lw_F s0 b) sz k n L g 730 [(5, .int (nI i)), (4, .ref (o + 424)), (3, .ref (o + 423)), (2, .ref (o + 407)), (1, .ref o), (0, .ref b)] [] := by
  refine g_aload_n (q := 731) dL_law_730 rfl rfl ?_
  refine g_aload_n (q := 732) dL_law_731 rfl rfl ?_
  refine g_iload (q := 734) dL_law_732 rfl rfl ?_
  refine g_iconst (q := 735) (v := (nI 1)) dL_law_734 rfl (by decide) ?_
  refine g_iaddN (q := 736) dL_law_735 rfl ?_
  refine gz_ld (q := 737) hX hbl hN (by omega) dL_law_736 rfl ?_
  refine g_aload_n (q := 738) dL_law_737 rfl rfl ?_
  refine g_iload (q := 740) dL_law_738 rfl rfl ?_
  refine g_iconst (q := 741) (v := (nI 2)) dL_law_740 rfl (by decide) ?_
  refine g_iaddN (q := 742) dL_law_741 rfl ?_
  refine gz_ld (q := 743) hX hbl hN (by omega) dL_law_742 rfl ?_
  refine g_aload_n (q := 744) dL_law_743 rfl rfl ?_
  refine gl_callH (q := 747) dL_law_744 rfl kh_L_149 rfl (pr_blockers hl hJ (xs (i + 1)) (xs (i + 2))) (by decide) (by decide) rfl (bz_le rfl) hkc hns (fun r g1 z1 hz1 hQ => ?_)
  obtain ⟨k9, hk9, rfl, ⟨hmL, fsm, hmg⟩, d2, hd2, hK2⟩ := hQ
  refine g_istore (q := 749) dL_law_747 rfl (by decide) rfl ?_
  refine g_aload_n (q := 750) dL_law_749 rfl rfl ?_
  refine g_aload_n (q := 751) dL_law_750 rfl rfl ?_
  refine g_iload (q := 753) dL_law_751 rfl rfl ?_
  refine g_iconst (q := 754) (v := (nI 1)) dL_law_753 rfl (by decide) ?_
  refine g_iaddN (q := 755) dL_law_754 rfl ?_
  refine gz_ld (q := 756) hX hbl hN (by omega) dL_law_755 rfl ?_
  refine g_aload_n (q := 757) dL_law_756 rfl rfl ?_
  refine g_iload (q := 759) dL_law_757 rfl rfl ?_
  refine g_iconst (q := 760) (v := (nI 2)) dL_law_759 rfl (by decide) ?_
  refine g_iaddN (q := 761) dL_law_760 rfl ?_
  refine gz_ld (q := 762) hX hbl hN (by omega) dL_law_761 rfl ?_
  refine gl_callV (q := 765) dL_law_762 rfl kv_L_151 rfl hK2 (by show d2 < 2048; omega) (by show 64 * d2 + 64 ≤ 84000; omega) hmL hmg rfl (bz_le rfl) hkc hns (fun r g2 hQ => ?_)
  obtain ⟨v, rfl, A1, I1, B1, U1, V1, hJ, hI, hU⟩ := hQ
  obtain ⟨hmL2, fsm2, hmg2⟩ := lw_m9 hJ.2.1
  refine g_istore (q := 767) dL_law_765 rfl (by decide) rfl ?_
  refine g_aload_n (q := 768) dL_law_767 rfl rfl ?_
  refine gl_callV (q := 771) dL_law_768 rfl kv_L_115 rfl (c_mthrown hJ.2.1) (by decide) (by decide) hmL2 hmg2 rfl (bz_le rfl) hkc hns (fun r g3 hQ => ?_)
  obtain ⟨rfl, hg9⟩ := hQ
  have hg9 := hg9.symm
  subst hg9
  have hB := bz_B.rf (bz_W.one hJ.2.2.1)
  refine g_iload (q := 773) dL_law_771 rfl rfl ?_
  refine g_icmp_eq (q := 776) (t := 778) dL_law_773 rfl (by decide) (fun _ => ?_) (fun c => absurd (hI) c)
  refine g_iload (q := 780) dL_law_778 rfl rfl ?_
  refine g_ifN_ne (q := 783) (t := 795) dL_law_780 rfl (by decide) (by omega) (fun c_780 => ?_) (fun c_780 => ?_)
  · refine g_goto (q := 2172) dL_law_795 (by decide) ?_
    refine g_lvs (lv1 := [(5, .int (nI i)), (4, .ref (o + 424)), (3, .ref (o + 423)), (2, .ref (o + 407)), (1, .ref o), (0, .ref b)]) ⟨rfl, rfl, rfl, rfl, rfl, rfl, trivial⟩ ?_
    exact kk _ _ _ _ _ _ _ hJ
  · refine g_aload_n (q := 784) dL_law_783 rfl rfl ?_
    refine g_iconst (q := 785) (v := (nI 0)) dL_law_784 rfl (by decide) ?_
    refine gb_laldN (q := 786) (j := 0) (i := 0) dL_law_785 rfl hB rfl rfl rfl (by omega) (by decide) ?_
    refine g_iload (q := 788) dL_law_786 rfl rfl ?_
    refine g_i2l (q := 789) dL_law_788 rfl ?_
    refine g_lcmp (q := 790) dL_law_789 rfl ?_
    refine g_if_eq (q := 793) (t := 795) dL_law_790 rfl (by decide) (fun _ => ?_) (fun c => absurd (by rw [hU c_780]; exact lw_lc _) c)
    refine g_goto (q := 2172) dL_law_795 (by decide) ?_
    refine g_lvs (lv1 := [(5, .int (nI i)), (4, .ref (o + 424)), (3, .ref (o + 423)), (2, .ref (o + 407)), (1, .ref o), (0, .ref b)]) ⟨rfl, rfl, rfl, rfl, rfl, rfl, trivial⟩ ?_
    exact kk _ _ _ _ _ _ _ hJ
set_option maxRecDepth 20000 in
set_option maxHeartbeats 1000000 in
theorem lb_11 {l : Launch} {E : bz_E} {z0 : Nat} {s0 : State} {b N : Nat} {xs : Nat → Int32} {sz k n : Nat} {L : List Nat} {g : Nat → va_E} {o i : Nat} {A : WA} {I : Nat → Int32} {B : Nat → Nat → Int32} {U : Nat → Int64} {V : Nat → UInt64} (hl : l.stackTraces = false) (hX : va_X b N xs s0 s0.heap) (hbl : b < s0.heap.size) (hN : N ≤ 3072) (hi : i + 6 ≤ N) (hJ : lw_J E L g o A I B U V) (hkc : k + 1 ≤ 601024) (hns : n + 6 ≤ 7293034) (kk : ∀ (g1 : Nat → va_E) (z1 : Nat) (A1 : WA) (I1 : Nat → Int32) (B1 : Nat → Nat → Int32) (U1 : Nat → Int64) (V1 : Nat → UInt64), lw_J E L g1 o A1 I1 B1 U1 V1 → bz_G l E mL_law room_1 [] z0 (lw_F s0 b) z1 (k + 1) (n + 6) L g1 2172 [(5, .int (nI i)), (4, .ref (o + 424)), (3, .ref (o + 423)), (2, .ref (o + 407)), (1, .ref o), (0, .ref b)] []) : bz_G l E mL_law room_1 [] z0 (lw_F s0 b) sz k n L g 798 [(5, .int (nI i)), (4, .ref (o + 424)), (3, .ref (o + 423)), (2, .ref (o + 407)), (1, .ref o), (0, .ref b)] [] := by
  refine g_aload_n (q := 799) dL_law_798 rfl rfl ?_
  refine g_aload_n (q := 800) dL_law_799 rfl rfl ?_
  refine g_iload (q := 802) dL_law_800 rfl rfl ?_
  refine g_iconst (q := 803) (v := (nI 1)) dL_law_802 rfl (by decide) ?_
  refine g_iaddN (q := 804) dL_law_803 rfl ?_
  refine gz_ld (q := 805) hX hbl hN (by omega) dL_law_804 rfl ?_
  refine g_aload_n (q := 806) dL_law_805 rfl rfl ?_
  refine gl_callH (q := 809) dL_law_806 rfl kh_L_152 rfl (pr_next hl hJ (xs (i + 1))) (by decide) (by decide) rfl (bz_le rfl) hkc hns (fun r g1 z1 hz1 hQ => ?_)
  obtain ⟨k9, hk9, rfl, ⟨hmL, fsm, hmg⟩, d2, hd2, hK2⟩ := hQ
  refine g_istore (q := 811) dL_law_809 rfl (by decide) rfl ?_
  refine g_aload_n (q := 812) dL_law_811 rfl rfl ?_
  refine g_aload_n (q := 813) dL_law_812 rfl rfl ?_
  refine g_iload (q := 815) dL_law_813 rfl rfl ?_
  refine g_iconst (q := 816) (v := (nI 1)) dL_law_815 rfl (by decide) ?_
  refine g_iaddN (q := 817) dL_law_816 rfl ?_
  refine gz_ld (q := 818) hX hbl hN (by omega) dL_law_817 rfl ?_
  refine gl_callV (q := 821) dL_law_818 rfl kv_L_154 rfl hK2 (by show d2 < 2048; omega) (by show 64 * d2 + 64 ≤ 84000; omega) hmL hmg rfl (bz_le rfl) hkc hns (fun r g2 hQ => ?_)
  obtain ⟨v, rfl, A1, I1, B1, U1, V1, hJ, hI, hU⟩ := hQ
  obtain ⟨hmL2, fsm2, hmg2⟩ := lw_m9 hJ.2.1
  refine g_istore (q := 823) dL_law_821 rfl (by decide) rfl ?_
  refine g_aload_n (q := 824) dL_law_823 rfl rfl ?_
  refine gl_callV (q := 827) dL_law_824 rfl kv_L_115 rfl (c_mthrown hJ.2.1) (by decide) (by decide) hmL2 hmg2 rfl (bz_le rfl) hkc hns (fun r g3 hQ => ?_)
  obtain ⟨rfl, hg9⟩ := hQ
  have hg9 := hg9.symm
  subst hg9
  have hB := bz_B.rf (bz_W.one hJ.2.2.1)
  refine g_iload (q := 829) dL_law_827 rfl rfl ?_
  refine g_icmp_eq (q := 832) (t := 834) dL_law_829 rfl (by decide) (fun _ => ?_) (fun c => absurd (hI) c)
  refine g_iload (q := 836) dL_law_834 rfl rfl ?_
  refine g_ifN_ne (q := 839) (t := 851) dL_law_836 rfl (by decide) (by omega) (fun c_836 => ?_) (fun c_836 => ?_)
  · refine g_goto (q := 2172) dL_law_851 (by decide) ?_
    refine g_lvs (lv1 := [(5, .int (nI i)), (4, .ref (o + 424)), (3, .ref (o + 423)), (2, .ref (o + 407)), (1, .ref o), (0, .ref b)]) ⟨rfl, rfl, rfl, rfl, rfl, rfl, trivial⟩ ?_
    exact kk _ _ _ _ _ _ _ hJ
  · refine g_aload_n (q := 840) dL_law_839 rfl rfl ?_
    refine g_iconst (q := 841) (v := (nI 0)) dL_law_840 rfl (by decide) ?_
    refine gb_laldN (q := 842) (j := 0) (i := 0) dL_law_841 rfl hB rfl rfl rfl (by omega) (by decide) ?_
    refine g_iload (q := 844) dL_law_842 rfl rfl ?_
    refine g_i2l (q := 845) dL_law_844 rfl ?_
    refine g_lcmp (q := 846) dL_law_845 rfl ?_
    refine g_if_eq (q := 849) (t := 851) dL_law_846 rfl (by decide) (fun _ => ?_) (fun c => absurd (by rw [hU c_836]; exact lw_lc _) c)
    refine g_goto (q := 2172) dL_law_851 (by decide) ?_
    refine g_lvs (lv1 := [(5, .int (nI i)), (4, .ref (o + 424)), (3, .ref (o + 423)), (2, .ref (o + 407)), (1, .ref o), (0, .ref b)]) ⟨rfl, rfl, rfl, rfl, rfl, rfl, trivial⟩ ?_
    exact kk _ _ _ _ _ _ _ hJ
set_option maxRecDepth 20000 in
set_option maxHeartbeats 1000000 in
theorem lb_12 {l : Launch} {E : bz_E} {z0 : Nat} {s0 : State} {b N : Nat} {xs : Nat → Int32} {sz k n : Nat} {L : List Nat} {g : Nat → va_E} {o i : Nat} {A : WA} {I : Nat → Int32} {B : Nat → Nat → Int32} {U : Nat → Int64} {V : Nat → UInt64} (hl : l.stackTraces = false) (hX : va_X b N xs s0 s0.heap) (hbl : b < s0.heap.size) (hN : N ≤ 3072) (hi : i + 6 ≤ N) (hJ : lw_J E L g o A I B U V) (hkc : k + 1 ≤ 601024) (hns : n + 6 ≤ 7293034) (kk : ∀ (g1 : Nat → va_E) (z1 : Nat) (A1 : WA) (I1 : Nat → Int32) (B1 : Nat → Nat → Int32) (U1 : Nat → Int64) (V1 : Nat → UInt64), lw_J E L g1 o A1 I1 B1 U1 V1 → bz_G l E mL_law room_1 [] z0 (lw_F s0 b) z1 (k + 1) (n + 6) L g1 2172 [(5, .int (nI i)), (4, .ref (o + 424)), (3, .ref (o + 423)), (2, .ref (o + 407)), (1, .ref o), (0, .ref b)] []) : bz_G l E mL_law room_1 [] z0 (lw_F s0 b) sz k n L g 854 [(5, .int (nI i)), (4, .ref (o + 424)), (3, .ref (o + 423)), (2, .ref (o + 407)), (1, .ref o), (0, .ref b)] [] := by
  refine g_aload_n (q := 855) dL_law_854 rfl rfl ?_
  refine g_aload_n (q := 856) dL_law_855 rfl rfl ?_
  refine g_iload (q := 858) dL_law_856 rfl rfl ?_
  refine g_iconst (q := 859) (v := (nI 1)) dL_law_858 rfl (by decide) ?_
  refine g_iaddN (q := 860) dL_law_859 rfl ?_
  refine gz_ld (q := 861) hX hbl hN (by omega) dL_law_860 rfl ?_
  refine g_aload_n (q := 862) dL_law_861 rfl rfl ?_
  refine g_iload (q := 864) dL_law_862 rfl rfl ?_
  refine g_iconst (q := 865) (v := (nI 2)) dL_law_864 rfl (by decide) ?_
  refine g_iaddN (q := 866) dL_law_865 rfl ?_
  refine gz_ld (q := 867) hX hbl hN (by omega) dL_law_866 rfl ?_
  refine g_aload_n (q := 868) dL_law_867 rfl rfl ?_
  refine gl_callH (q := 871) dL_law_868 rfl kh_L_155 rfl (pr_held hl hJ (xs (i + 1)) (xs (i + 2))) (by decide) (by decide) rfl (bz_le rfl) hkc hns (fun r g1 z1 hz1 hQ => ?_)
  obtain ⟨k9, hk9, rfl, ⟨hmL, fsm, hmg⟩, d2, hd2, hK2⟩ := hQ
  refine g_istore (q := 873) dL_law_871 rfl (by decide) rfl ?_
  refine g_aload_n (q := 874) dL_law_873 rfl rfl ?_
  refine g_aload_n (q := 875) dL_law_874 rfl rfl ?_
  refine g_iload (q := 877) dL_law_875 rfl rfl ?_
  refine g_iconst (q := 878) (v := (nI 1)) dL_law_877 rfl (by decide) ?_
  refine g_iaddN (q := 879) dL_law_878 rfl ?_
  refine gz_ld (q := 880) hX hbl hN (by omega) dL_law_879 rfl ?_
  refine g_aload_n (q := 881) dL_law_880 rfl rfl ?_
  refine g_iload (q := 883) dL_law_881 rfl rfl ?_
  refine g_iconst (q := 884) (v := (nI 2)) dL_law_883 rfl (by decide) ?_
  refine g_iaddN (q := 885) dL_law_884 rfl ?_
  refine gz_ld (q := 886) hX hbl hN (by omega) dL_law_885 rfl ?_
  refine gl_callV (q := 889) dL_law_886 rfl kv_L_157 rfl hK2 (by show d2 < 2048; omega) (by show 64 * d2 + 64 ≤ 84000; omega) hmL hmg rfl (bz_le rfl) hkc hns (fun r g2 hQ => ?_)
  obtain ⟨v, rfl, A1, I1, B1, U1, V1, hJ, hI, hU⟩ := hQ
  obtain ⟨hmL2, fsm2, hmg2⟩ := lw_m9 hJ.2.1
  refine g_istore (q := 891) dL_law_889 rfl (by decide) rfl ?_
  refine g_aload_n (q := 892) dL_law_891 rfl rfl ?_
  refine gl_callV (q := 895) dL_law_892 rfl kv_L_115 rfl (c_mthrown hJ.2.1) (by decide) (by decide) hmL2 hmg2 rfl (bz_le rfl) hkc hns (fun r g3 hQ => ?_)
  obtain ⟨rfl, hg9⟩ := hQ
  have hg9 := hg9.symm
  subst hg9
  have hB := bz_B.rf (bz_W.one hJ.2.2.1)
  refine g_iload (q := 897) dL_law_895 rfl rfl ?_
  refine g_icmp_eq (q := 900) (t := 902) dL_law_897 rfl (by decide) (fun _ => ?_) (fun c => absurd (hI) c)
  refine g_iload (q := 904) dL_law_902 rfl rfl ?_
  refine g_ifN_ne (q := 907) (t := 919) dL_law_904 rfl (by decide) (by omega) (fun c_904 => ?_) (fun c_904 => ?_)
  · refine g_goto (q := 2172) dL_law_919 (by decide) ?_
    refine g_lvs (lv1 := [(5, .int (nI i)), (4, .ref (o + 424)), (3, .ref (o + 423)), (2, .ref (o + 407)), (1, .ref o), (0, .ref b)]) ⟨rfl, rfl, rfl, rfl, rfl, rfl, trivial⟩ ?_
    exact kk _ _ _ _ _ _ _ hJ
  · refine g_aload_n (q := 908) dL_law_907 rfl rfl ?_
    refine g_iconst (q := 909) (v := (nI 0)) dL_law_908 rfl (by decide) ?_
    refine gb_laldN (q := 910) (j := 0) (i := 0) dL_law_909 rfl hB rfl rfl rfl (by omega) (by decide) ?_
    refine g_iload (q := 912) dL_law_910 rfl rfl ?_
    refine g_i2l (q := 913) dL_law_912 rfl ?_
    refine g_lcmp (q := 914) dL_law_913 rfl ?_
    refine g_if_eq (q := 917) (t := 919) dL_law_914 rfl (by decide) (fun _ => ?_) (fun c => absurd (by rw [hU c_904]; exact lw_lc _) c)
    refine g_goto (q := 2172) dL_law_919 (by decide) ?_
    refine g_lvs (lv1 := [(5, .int (nI i)), (4, .ref (o + 424)), (3, .ref (o + 423)), (2, .ref (o + 407)), (1, .ref o), (0, .ref b)]) ⟨rfl, rfl, rfl, rfl, rfl, rfl, trivial⟩ ?_
    exact kk _ _ _ _ _ _ _ hJ
set_option maxRecDepth 20000 in
set_option maxHeartbeats 1000000 in
theorem lb_13 {l : Launch} {E : bz_E} {z0 : Nat} {s0 : State} {b N : Nat} {xs : Nat → Int32} {sz k n : Nat} {L : List Nat} {g : Nat → va_E} {o i : Nat} {A : WA} {I : Nat → Int32} {B : Nat → Nat → Int32} {U : Nat → Int64} {V : Nat → UInt64} (hl : l.stackTraces = false) (hX : va_X b N xs s0 s0.heap) (hbl : b < s0.heap.size) (hN : N ≤ 3072) (hi : i + 6 ≤ N) (hJ : lw_J E L g o A I B U V) (hkc : k + 1 ≤ 601024) (hns : n + 6 ≤ 7293034) (kk : ∀ (g1 : Nat → va_E) (z1 : Nat) (A1 : WA) (I1 : Nat → Int32) (B1 : Nat → Nat → Int32) (U1 : Nat → Int64) (V1 : Nat → UInt64), lw_J E L g1 o A1 I1 B1 U1 V1 → bz_G l E mL_law room_1 [] z0 (lw_F s0 b) z1 (k + 1) (n + 6) L g1 2172 [(5, .int (nI i)), (4, .ref (o + 424)), (3, .ref (o + 423)), (2, .ref (o + 407)), (1, .ref o), (0, .ref b)] []) : bz_G l E mL_law room_1 [] z0 (lw_F s0 b) sz k n L g 922 [(5, .int (nI i)), (4, .ref (o + 424)), (3, .ref (o + 423)), (2, .ref (o + 407)), (1, .ref o), (0, .ref b)] [] := by
  refine g_aload_n (q := 923) dL_law_922 rfl rfl ?_
  refine g_aload_n (q := 924) dL_law_923 rfl rfl ?_
  refine g_iload (q := 926) dL_law_924 rfl rfl ?_
  refine g_iconst (q := 927) (v := (nI 1)) dL_law_926 rfl (by decide) ?_
  refine g_iaddN (q := 928) dL_law_927 rfl ?_
  refine gz_ld (q := 929) hX hbl hN (by omega) dL_law_928 rfl ?_
  refine g_aload_n (q := 930) dL_law_929 rfl rfl ?_
  refine g_iload (q := 932) dL_law_930 rfl rfl ?_
  refine g_iconst (q := 933) (v := (nI 2)) dL_law_932 rfl (by decide) ?_
  refine g_iaddN (q := 934) dL_law_933 rfl ?_
  refine gz_ld (q := 935) hX hbl hN (by omega) dL_law_934 rfl ?_
  refine g_aload_n (q := 936) dL_law_935 rfl rfl ?_
  refine gl_callH (q := 939) dL_law_936 rfl kh_L_158 rfl (pr_word hl hJ (xs (i + 1)) (xs (i + 2))) (by decide) (by decide) rfl (bz_le rfl) hkc hns (fun r g1 z1 hz1 hQ => ?_)
  obtain ⟨k9, hk9, rfl, ⟨hmL, fsm, hmg⟩, d2, hd2, hK2⟩ := hQ
  refine g_istore (q := 941) dL_law_939 rfl (by decide) rfl ?_
  refine g_aload_n (q := 942) dL_law_941 rfl rfl ?_
  refine g_aload_n (q := 943) dL_law_942 rfl rfl ?_
  refine g_iload (q := 945) dL_law_943 rfl rfl ?_
  refine g_iconst (q := 946) (v := (nI 1)) dL_law_945 rfl (by decide) ?_
  refine g_iaddN (q := 947) dL_law_946 rfl ?_
  refine gz_ld (q := 948) hX hbl hN (by omega) dL_law_947 rfl ?_
  refine g_aload_n (q := 949) dL_law_948 rfl rfl ?_
  refine g_iload (q := 951) dL_law_949 rfl rfl ?_
  refine g_iconst (q := 952) (v := (nI 2)) dL_law_951 rfl (by decide) ?_
  refine g_iaddN (q := 953) dL_law_952 rfl ?_
  refine gz_ld (q := 954) hX hbl hN (by omega) dL_law_953 rfl ?_
  refine gl_callV (q := 957) dL_law_954 rfl kv_L_160 rfl hK2 (by show d2 < 2048; omega) (by show 64 * d2 + 64 ≤ 84000; omega) hmL hmg rfl (bz_le rfl) hkc hns (fun r g2 hQ => ?_)
  obtain ⟨v, rfl, A1, I1, B1, U1, V1, hJ, hI, hU⟩ := hQ
  obtain ⟨hmL2, fsm2, hmg2⟩ := lw_m9 hJ.2.1
  refine g_istore (q := 959) dL_law_957 rfl (by decide) rfl ?_
  refine g_aload_n (q := 960) dL_law_959 rfl rfl ?_
  refine gl_callV (q := 963) dL_law_960 rfl kv_L_115 rfl (c_mthrown hJ.2.1) (by decide) (by decide) hmL2 hmg2 rfl (bz_le rfl) hkc hns (fun r g3 hQ => ?_)
  obtain ⟨rfl, hg9⟩ := hQ
  have hg9 := hg9.symm
  subst hg9
  have hB := bz_B.rf (bz_W.one hJ.2.2.1)
  refine g_iload (q := 965) dL_law_963 rfl rfl ?_
  refine g_icmp_eq (q := 968) (t := 970) dL_law_965 rfl (by decide) (fun _ => ?_) (fun c => absurd (hI) c)
  refine g_iload (q := 972) dL_law_970 rfl rfl ?_
  refine g_ifN_ne (q := 975) (t := 987) dL_law_972 rfl (by decide) (by omega) (fun c_972 => ?_) (fun c_972 => ?_)
  · refine g_goto (q := 2172) dL_law_987 (by decide) ?_
    refine g_lvs (lv1 := [(5, .int (nI i)), (4, .ref (o + 424)), (3, .ref (o + 423)), (2, .ref (o + 407)), (1, .ref o), (0, .ref b)]) ⟨rfl, rfl, rfl, rfl, rfl, rfl, trivial⟩ ?_
    exact kk _ _ _ _ _ _ _ hJ
  · refine g_aload_n (q := 976) dL_law_975 rfl rfl ?_
    refine g_iconst (q := 977) (v := (nI 0)) dL_law_976 rfl (by decide) ?_
    refine gb_laldN (q := 978) (j := 0) (i := 0) dL_law_977 rfl hB rfl rfl rfl (by omega) (by decide) ?_
    refine g_iload (q := 980) dL_law_978 rfl rfl ?_
    refine g_i2l (q := 981) dL_law_980 rfl ?_
    refine g_lcmp (q := 982) dL_law_981 rfl ?_
    refine g_if_eq (q := 985) (t := 987) dL_law_982 rfl (by decide) (fun _ => ?_) (fun c => absurd (by rw [hU c_972]; exact lw_lc _) c)
    refine g_goto (q := 2172) dL_law_987 (by decide) ?_
    refine g_lvs (lv1 := [(5, .int (nI i)), (4, .ref (o + 424)), (3, .ref (o + 423)), (2, .ref (o + 407)), (1, .ref o), (0, .ref b)]) ⟨rfl, rfl, rfl, rfl, rfl, rfl, trivial⟩ ?_
    exact kk _ _ _ _ _ _ _ hJ
set_option maxRecDepth 20000 in
set_option maxHeartbeats 1000000 in
theorem lb_14 {l : Launch} {E : bz_E} {z0 : Nat} {s0 : State} {b N : Nat} {xs : Nat → Int32} {sz k n : Nat} {L : List Nat} {g : Nat → va_E} {o i : Nat} {A : WA} {I : Nat → Int32} {B : Nat → Nat → Int32} {U : Nat → Int64} {V : Nat → UInt64} (hl : l.stackTraces = false) (hX : va_X b N xs s0 s0.heap) (hbl : b < s0.heap.size) (hN : N ≤ 3072) (hi : i + 6 ≤ N) (hJ : lw_J E L g o A I B U V) (hkc : k + 1 ≤ 601024) (hns : n + 6 ≤ 7293034) (kk : ∀ (g1 : Nat → va_E) (z1 : Nat) (A1 : WA) (I1 : Nat → Int32) (B1 : Nat → Nat → Int32) (U1 : Nat → Int64) (V1 : Nat → UInt64), lw_J E L g1 o A1 I1 B1 U1 V1 → bz_G l E mL_law room_1 [] z0 (lw_F s0 b) z1 (k + 1) (n + 6) L g1 2172 [(5, .int (nI i)), (4, .ref (o + 424)), (3, .ref (o + 423)), (2, .ref (o + 407)), (1, .ref o), (0, .ref b)] []) : bz_G l E mL_law room_1 [] z0 (lw_F s0 b) sz k n L g 990 [(5, .int (nI i)), (4, .ref (o + 424)), (3, .ref (o + 423)), (2, .ref (o + 407)), (1, .ref o), (0, .ref b)] [] := by
  refine g_aload_n (q := 991) dL_law_990 rfl rfl ?_
  refine g_aload_n (q := 992) dL_law_991 rfl rfl ?_
  refine g_iload (q := 994) dL_law_992 rfl rfl ?_
  refine g_iconst (q := 995) (v := (nI 1)) dL_law_994 rfl (by decide) ?_
  refine g_iaddN (q := 996) dL_law_995 rfl ?_
  refine gz_ld (q := 997) hX hbl hN (by omega) dL_law_996 rfl ?_
  refine g_aload_n (q := 998) dL_law_997 rfl rfl ?_
  refine g_iload (q := 1000) dL_law_998 rfl rfl ?_
  refine g_iconst (q := 1001) (v := (nI 2)) dL_law_1000 rfl (by decide) ?_
  refine g_iaddN (q := 1002) dL_law_1001 rfl ?_
  refine gz_ld (q := 1003) hX hbl hN (by omega) dL_law_1002 rfl ?_
  refine g_aload_n (q := 1004) dL_law_1003 rfl rfl ?_
  refine gl_callH (q := 1007) dL_law_1004 rfl kh_L_161 rfl (pr_tagState hl hJ (xs (i + 1)) (xs (i + 2))) (by decide) (by decide) rfl (bz_le rfl) hkc hns (fun r g1 z1 hz1 hQ => ?_)
  obtain ⟨k9, hk9, rfl, ⟨hmL, fsm, hmg⟩, d2, hd2, hK2⟩ := hQ
  refine g_istore (q := 1009) dL_law_1007 rfl (by decide) rfl ?_
  refine g_aload_n (q := 1010) dL_law_1009 rfl rfl ?_
  refine g_aload_n (q := 1011) dL_law_1010 rfl rfl ?_
  refine g_iload (q := 1013) dL_law_1011 rfl rfl ?_
  refine g_iconst (q := 1014) (v := (nI 1)) dL_law_1013 rfl (by decide) ?_
  refine g_iaddN (q := 1015) dL_law_1014 rfl ?_
  refine gz_ld (q := 1016) hX hbl hN (by omega) dL_law_1015 rfl ?_
  refine g_aload_n (q := 1017) dL_law_1016 rfl rfl ?_
  refine g_iload (q := 1019) dL_law_1017 rfl rfl ?_
  refine g_iconst (q := 1020) (v := (nI 2)) dL_law_1019 rfl (by decide) ?_
  refine g_iaddN (q := 1021) dL_law_1020 rfl ?_
  refine gz_ld (q := 1022) hX hbl hN (by omega) dL_law_1021 rfl ?_
  refine gl_callV (q := 1025) dL_law_1022 rfl kv_L_163 rfl hK2 (by show d2 < 2048; omega) (by show 64 * d2 + 64 ≤ 84000; omega) hmL hmg rfl (bz_le rfl) hkc hns (fun r g2 hQ => ?_)
  obtain ⟨v, rfl, A1, I1, B1, U1, V1, hJ, hI, hU⟩ := hQ
  obtain ⟨hmL2, fsm2, hmg2⟩ := lw_m9 hJ.2.1
  refine g_istore (q := 1027) dL_law_1025 rfl (by decide) rfl ?_
  refine g_aload_n (q := 1028) dL_law_1027 rfl rfl ?_
  refine gl_callV (q := 1031) dL_law_1028 rfl kv_L_115 rfl (c_mthrown hJ.2.1) (by decide) (by decide) hmL2 hmg2 rfl (bz_le rfl) hkc hns (fun r g3 hQ => ?_)
  obtain ⟨rfl, hg9⟩ := hQ
  have hg9 := hg9.symm
  subst hg9
  have hB := bz_B.rf (bz_W.one hJ.2.2.1)
  refine g_iload (q := 1033) dL_law_1031 rfl rfl ?_
  refine g_icmp_eq (q := 1036) (t := 1038) dL_law_1033 rfl (by decide) (fun _ => ?_) (fun c => absurd (hI) c)
  refine g_iload (q := 1040) dL_law_1038 rfl rfl ?_
  refine g_ifN_ne (q := 1043) (t := 1055) dL_law_1040 rfl (by decide) (by omega) (fun c_1040 => ?_) (fun c_1040 => ?_)
  · refine g_goto (q := 2172) dL_law_1055 (by decide) ?_
    refine g_lvs (lv1 := [(5, .int (nI i)), (4, .ref (o + 424)), (3, .ref (o + 423)), (2, .ref (o + 407)), (1, .ref o), (0, .ref b)]) ⟨rfl, rfl, rfl, rfl, rfl, rfl, trivial⟩ ?_
    exact kk _ _ _ _ _ _ _ hJ
  · refine g_aload_n (q := 1044) dL_law_1043 rfl rfl ?_
    refine g_iconst (q := 1045) (v := (nI 0)) dL_law_1044 rfl (by decide) ?_
    refine gb_laldN (q := 1046) (j := 0) (i := 0) dL_law_1045 rfl hB rfl rfl rfl (by omega) (by decide) ?_
    refine g_iload (q := 1048) dL_law_1046 rfl rfl ?_
    refine g_i2l (q := 1049) dL_law_1048 rfl ?_
    refine g_lcmp (q := 1050) dL_law_1049 rfl ?_
    refine g_if_eq (q := 1053) (t := 1055) dL_law_1050 rfl (by decide) (fun _ => ?_) (fun c => absurd (by rw [hU c_1040]; exact lw_lc _) c)
    refine g_goto (q := 2172) dL_law_1055 (by decide) ?_
    refine g_lvs (lv1 := [(5, .int (nI i)), (4, .ref (o + 424)), (3, .ref (o + 423)), (2, .ref (o + 407)), (1, .ref o), (0, .ref b)]) ⟨rfl, rfl, rfl, rfl, rfl, rfl, trivial⟩ ?_
    exact kk _ _ _ _ _ _ _ hJ
set_option maxRecDepth 20000 in
set_option maxHeartbeats 1000000 in
theorem lb_15 {l : Launch} {E : bz_E} {z0 : Nat} {s0 : State} {b N : Nat} {xs : Nat → Int32} {sz k n : Nat} {L : List Nat} {g : Nat → va_E} {o i : Nat} {A : WA} {I : Nat → Int32} {B : Nat → Nat → Int32} {U : Nat → Int64} {V : Nat → UInt64} (hl : l.stackTraces = false) (hX : va_X b N xs s0 s0.heap) (hbl : b < s0.heap.size) (hN : N ≤ 3072) (hi : i + 6 ≤ N) (hJ : lw_J E L g o A I B U V) (hkc : k + 1 ≤ 601024) (hns : n + 6 ≤ 7293034) (kk : ∀ (g1 : Nat → va_E) (z1 : Nat) (A1 : WA) (I1 : Nat → Int32) (B1 : Nat → Nat → Int32) (U1 : Nat → Int64) (V1 : Nat → UInt64), lw_J E L g1 o A1 I1 B1 U1 V1 → bz_G l E mL_law room_1 [] z0 (lw_F s0 b) z1 (k + 1) (n + 6) L g1 2172 [(5, .int (nI i)), (4, .ref (o + 424)), (3, .ref (o + 423)), (2, .ref (o + 407)), (1, .ref o), (0, .ref b)] []) : bz_G l E mL_law room_1 [] z0 (lw_F s0 b) sz k n L g 1058 [(5, .int (nI i)), (4, .ref (o + 424)), (3, .ref (o + 423)), (2, .ref (o + 407)), (1, .ref o), (0, .ref b)] [] := by
  refine g_aload_n (q := 1059) dL_law_1058 rfl rfl ?_
  refine g_aload_n (q := 1060) dL_law_1059 rfl rfl ?_
  refine g_iload (q := 1062) dL_law_1060 rfl rfl ?_
  refine g_iconst (q := 1063) (v := (nI 1)) dL_law_1062 rfl (by decide) ?_
  refine g_iaddN (q := 1064) dL_law_1063 rfl ?_
  refine gz_ld (q := 1065) hX hbl hN (by omega) dL_law_1064 rfl ?_
  refine g_aload_n (q := 1066) dL_law_1065 rfl rfl ?_
  refine g_iload (q := 1068) dL_law_1066 rfl rfl ?_
  refine g_iconst (q := 1069) (v := (nI 2)) dL_law_1068 rfl (by decide) ?_
  refine g_iaddN (q := 1070) dL_law_1069 rfl ?_
  refine gz_ld (q := 1071) hX hbl hN (by omega) dL_law_1070 rfl ?_
  refine g_aload_n (q := 1072) dL_law_1071 rfl rfl ?_
  refine gl_callH (q := 1075) dL_law_1072 rfl kh_L_164 rfl (pr_stored hl hJ (xs (i + 1)) (xs (i + 2))) (by decide) (by decide) rfl (bz_le rfl) hkc hns (fun r g1 z1 hz1 hQ => ?_)
  obtain ⟨k9, hk9, rfl, ⟨hmL, fsm, hmg⟩, d2, hd2, hK2⟩ := hQ
  refine g_istore (q := 1077) dL_law_1075 rfl (by decide) rfl ?_
  refine g_aload_n (q := 1078) dL_law_1077 rfl rfl ?_
  refine g_aload_n (q := 1079) dL_law_1078 rfl rfl ?_
  refine g_iload (q := 1081) dL_law_1079 rfl rfl ?_
  refine g_iconst (q := 1082) (v := (nI 1)) dL_law_1081 rfl (by decide) ?_
  refine g_iaddN (q := 1083) dL_law_1082 rfl ?_
  refine gz_ld (q := 1084) hX hbl hN (by omega) dL_law_1083 rfl ?_
  refine g_aload_n (q := 1085) dL_law_1084 rfl rfl ?_
  refine g_iload (q := 1087) dL_law_1085 rfl rfl ?_
  refine g_iconst (q := 1088) (v := (nI 2)) dL_law_1087 rfl (by decide) ?_
  refine g_iaddN (q := 1089) dL_law_1088 rfl ?_
  refine gz_ld (q := 1090) hX hbl hN (by omega) dL_law_1089 rfl ?_
  refine gl_callV (q := 1093) dL_law_1090 rfl kv_L_166 rfl hK2 (by show d2 < 2048; omega) (by show 64 * d2 + 64 ≤ 84000; omega) hmL hmg rfl (bz_le rfl) hkc hns (fun r g2 hQ => ?_)
  obtain ⟨v, rfl, A1, I1, B1, U1, V1, hJ, hI, hU⟩ := hQ
  obtain ⟨hmL2, fsm2, hmg2⟩ := lw_m9 hJ.2.1
  refine g_istore (q := 1095) dL_law_1093 rfl (by decide) rfl ?_
  refine g_aload_n (q := 1096) dL_law_1095 rfl rfl ?_
  refine gl_callV (q := 1099) dL_law_1096 rfl kv_L_115 rfl (c_mthrown hJ.2.1) (by decide) (by decide) hmL2 hmg2 rfl (bz_le rfl) hkc hns (fun r g3 hQ => ?_)
  obtain ⟨rfl, hg9⟩ := hQ
  have hg9 := hg9.symm
  subst hg9
  have hB := bz_B.rf (bz_W.one hJ.2.2.1)
  refine g_iload (q := 1101) dL_law_1099 rfl rfl ?_
  refine g_icmp_eq (q := 1104) (t := 1106) dL_law_1101 rfl (by decide) (fun _ => ?_) (fun c => absurd (hI) c)
  refine g_iload (q := 1108) dL_law_1106 rfl rfl ?_
  refine g_ifN_ne (q := 1111) (t := 1123) dL_law_1108 rfl (by decide) (by omega) (fun c_1108 => ?_) (fun c_1108 => ?_)
  · refine g_goto (q := 2172) dL_law_1123 (by decide) ?_
    refine g_lvs (lv1 := [(5, .int (nI i)), (4, .ref (o + 424)), (3, .ref (o + 423)), (2, .ref (o + 407)), (1, .ref o), (0, .ref b)]) ⟨rfl, rfl, rfl, rfl, rfl, rfl, trivial⟩ ?_
    exact kk _ _ _ _ _ _ _ hJ
  · refine g_aload_n (q := 1112) dL_law_1111 rfl rfl ?_
    refine g_iconst (q := 1113) (v := (nI 0)) dL_law_1112 rfl (by decide) ?_
    refine gb_laldN (q := 1114) (j := 0) (i := 0) dL_law_1113 rfl hB rfl rfl rfl (by omega) (by decide) ?_
    refine g_iload (q := 1116) dL_law_1114 rfl rfl ?_
    refine g_i2l (q := 1117) dL_law_1116 rfl ?_
    refine g_lcmp (q := 1118) dL_law_1117 rfl ?_
    refine g_if_eq (q := 1121) (t := 1123) dL_law_1118 rfl (by decide) (fun _ => ?_) (fun c => absurd (by rw [hU c_1108]; exact lw_lc _) c)
    refine g_goto (q := 2172) dL_law_1123 (by decide) ?_
    refine g_lvs (lv1 := [(5, .int (nI i)), (4, .ref (o + 424)), (3, .ref (o + 423)), (2, .ref (o + 407)), (1, .ref o), (0, .ref b)]) ⟨rfl, rfl, rfl, rfl, rfl, rfl, trivial⟩ ?_
    exact kk _ _ _ _ _ _ _ hJ
set_option maxRecDepth 20000 in
set_option maxHeartbeats 1000000 in
theorem lb_16 {l : Launch} {E : bz_E} {z0 : Nat} {s0 : State} {b N : Nat} {xs : Nat → Int32} {sz k n : Nat} {L : List Nat} {g : Nat → va_E} {o i : Nat} {A : WA} {I : Nat → Int32} {B : Nat → Nat → Int32} {U : Nat → Int64} {V : Nat → UInt64} (hl : l.stackTraces = false) (hX : va_X b N xs s0 s0.heap) (hbl : b < s0.heap.size) (hN : N ≤ 3072) (hi : i + 6 ≤ N) (hJ : lw_J E L g o A I B U V) (hkc : k + 1 ≤ 601024) (hns : n + 6 ≤ 7293034) (kk : ∀ (g1 : Nat → va_E) (z1 : Nat) (A1 : WA) (I1 : Nat → Int32) (B1 : Nat → Nat → Int32) (U1 : Nat → Int64) (V1 : Nat → UInt64), lw_J E L g1 o A1 I1 B1 U1 V1 → bz_G l E mL_law room_1 [] z0 (lw_F s0 b) z1 (k + 1) (n + 6) L g1 2172 [(5, .int (nI i)), (4, .ref (o + 424)), (3, .ref (o + 423)), (2, .ref (o + 407)), (1, .ref o), (0, .ref b)] []) : bz_G l E mL_law room_1 [] z0 (lw_F s0 b) sz k n L g 1126 [(5, .int (nI i)), (4, .ref (o + 424)), (3, .ref (o + 423)), (2, .ref (o + 407)), (1, .ref o), (0, .ref b)] [] := by
  refine g_aload_n (q := 1127) dL_law_1126 rfl rfl ?_
  refine g_aload_n (q := 1128) dL_law_1127 rfl rfl ?_
  refine g_iload (q := 1130) dL_law_1128 rfl rfl ?_
  refine g_iconst (q := 1131) (v := (nI 1)) dL_law_1130 rfl (by decide) ?_
  refine g_iaddN (q := 1132) dL_law_1131 rfl ?_
  refine gz_ld (q := 1133) hX hbl hN (by omega) dL_law_1132 rfl ?_
  refine g_aload_n (q := 1134) dL_law_1133 rfl rfl ?_
  refine g_iload (q := 1136) dL_law_1134 rfl rfl ?_
  refine g_iconst (q := 1137) (v := (nI 2)) dL_law_1136 rfl (by decide) ?_
  refine g_iaddN (q := 1138) dL_law_1137 rfl ?_
  refine gz_ld (q := 1139) hX hbl hN (by omega) dL_law_1138 rfl ?_
  refine g_aload_n (q := 1140) dL_law_1139 rfl rfl ?_
  refine g_iload (q := 1142) dL_law_1140 rfl rfl ?_
  refine g_iconst (q := 1143) (v := (nI 3)) dL_law_1142 rfl (by decide) ?_
  refine g_iaddN (q := 1144) dL_law_1143 rfl ?_
  refine gz_ld (q := 1145) hX hbl hN (by omega) dL_law_1144 rfl ?_
  refine g_aload_n (q := 1146) dL_law_1145 rfl rfl ?_
  refine gl_callH (q := 1149) dL_law_1146 rfl kh_L_167 rfl (pr_data hl hJ (xs (i + 1)) (xs (i + 2)) (xs (i + 3))) (by decide) (by decide) rfl (bz_le rfl) hkc hns (fun r g1 z1 hz1 hQ => ?_)
  obtain ⟨k9, hk9, rfl, ⟨hmL, fsm, hmg⟩, d2, hd2, hK2⟩ := hQ
  refine g_istore (q := 1151) dL_law_1149 rfl (by decide) rfl ?_
  refine g_aload_n (q := 1152) dL_law_1151 rfl rfl ?_
  refine g_aload_n (q := 1153) dL_law_1152 rfl rfl ?_
  refine g_iload (q := 1155) dL_law_1153 rfl rfl ?_
  refine g_iconst (q := 1156) (v := (nI 1)) dL_law_1155 rfl (by decide) ?_
  refine g_iaddN (q := 1157) dL_law_1156 rfl ?_
  refine gz_ld (q := 1158) hX hbl hN (by omega) dL_law_1157 rfl ?_
  refine g_aload_n (q := 1159) dL_law_1158 rfl rfl ?_
  refine g_iload (q := 1161) dL_law_1159 rfl rfl ?_
  refine g_iconst (q := 1162) (v := (nI 2)) dL_law_1161 rfl (by decide) ?_
  refine g_iaddN (q := 1163) dL_law_1162 rfl ?_
  refine gz_ld (q := 1164) hX hbl hN (by omega) dL_law_1163 rfl ?_
  refine g_aload_n (q := 1165) dL_law_1164 rfl rfl ?_
  refine g_iload (q := 1167) dL_law_1165 rfl rfl ?_
  refine g_iconst (q := 1168) (v := (nI 3)) dL_law_1167 rfl (by decide) ?_
  refine g_iaddN (q := 1169) dL_law_1168 rfl ?_
  refine gz_ld (q := 1170) hX hbl hN (by omega) dL_law_1169 rfl ?_
  refine gl_callV (q := 1173) dL_law_1170 rfl kv_L_170 rfl hK2 (by show d2 < 2048; omega) (by show 64 * d2 + 64 ≤ 84000; omega) hmL hmg rfl (bz_le rfl) hkc hns (fun r g2 hQ => ?_)
  obtain ⟨v, rfl, A1, I1, B1, U1, V1, hJ, hI, hU⟩ := hQ
  obtain ⟨hmL2, fsm2, hmg2⟩ := lw_m9 hJ.2.1
  refine g_istore (q := 1175) dL_law_1173 rfl (by decide) rfl ?_
  refine g_aload_n (q := 1176) dL_law_1175 rfl rfl ?_
  refine gl_callV (q := 1179) dL_law_1176 rfl kv_L_115 rfl (c_mthrown hJ.2.1) (by decide) (by decide) hmL2 hmg2 rfl (bz_le rfl) hkc hns (fun r g3 hQ => ?_)
  obtain ⟨rfl, hg9⟩ := hQ
  have hg9 := hg9.symm
  subst hg9
  have hB := bz_B.rf (bz_W.one hJ.2.2.1)
  refine g_iload (q := 1181) dL_law_1179 rfl rfl ?_
  refine g_icmp_eq (q := 1184) (t := 1186) dL_law_1181 rfl (by decide) (fun _ => ?_) (fun c => absurd (hI) c)
  refine g_iload (q := 1188) dL_law_1186 rfl rfl ?_
  refine g_ifN_ne (q := 1191) (t := 1203) dL_law_1188 rfl (by decide) (by omega) (fun c_1188 => ?_) (fun c_1188 => ?_)
  · refine g_goto (q := 2172) dL_law_1203 (by decide) ?_
    refine g_lvs (lv1 := [(5, .int (nI i)), (4, .ref (o + 424)), (3, .ref (o + 423)), (2, .ref (o + 407)), (1, .ref o), (0, .ref b)]) ⟨rfl, rfl, rfl, rfl, rfl, rfl, trivial⟩ ?_
    exact kk _ _ _ _ _ _ _ hJ
  · refine g_aload_n (q := 1192) dL_law_1191 rfl rfl ?_
    refine g_iconst (q := 1193) (v := (nI 0)) dL_law_1192 rfl (by decide) ?_
    refine gb_laldN (q := 1194) (j := 0) (i := 0) dL_law_1193 rfl hB rfl rfl rfl (by omega) (by decide) ?_
    refine g_iload (q := 1196) dL_law_1194 rfl rfl ?_
    refine g_i2l (q := 1197) dL_law_1196 rfl ?_
    refine g_lcmp (q := 1198) dL_law_1197 rfl ?_
    refine g_if_eq (q := 1201) (t := 1203) dL_law_1198 rfl (by decide) (fun _ => ?_) (fun c => absurd (by rw [hU c_1188]; exact lw_lc _) c)
    refine g_goto (q := 2172) dL_law_1203 (by decide) ?_
    refine g_lvs (lv1 := [(5, .int (nI i)), (4, .ref (o + 424)), (3, .ref (o + 423)), (2, .ref (o + 407)), (1, .ref o), (0, .ref b)]) ⟨rfl, rfl, rfl, rfl, rfl, rfl, trivial⟩ ?_
    exact kk _ _ _ _ _ _ _ hJ
set_option maxRecDepth 20000 in
set_option maxHeartbeats 1000000 in
theorem lb_17 {l : Launch} {E : bz_E} {z0 : Nat} {s0 : State} {b N : Nat} {xs : Nat → Int32} {sz k n : Nat} {L : List Nat} {g : Nat → va_E} {o i : Nat} {A : WA} {I : Nat → Int32} {B : Nat → Nat → Int32} {U : Nat → Int64} {V : Nat → UInt64} (hl : l.stackTraces = false) (hX : va_X b N xs s0 s0.heap) (hbl : b < s0.heap.size) (hN : N ≤ 3072) (hi : i + 6 ≤ N) (hJ : lw_J E L g o A I B U V) (hkc : k + 1 ≤ 601024) (hns : n + 6 ≤ 7293034) (kk : ∀ (g1 : Nat → va_E) (z1 : Nat) (A1 : WA) (I1 : Nat → Int32) (B1 : Nat → Nat → Int32) (U1 : Nat → Int64) (V1 : Nat → UInt64), lw_J E L g1 o A1 I1 B1 U1 V1 → bz_G l E mL_law room_1 [] z0 (lw_F s0 b) z1 (k + 1) (n + 6) L g1 2172 [(5, .int (nI i)), (4, .ref (o + 424)), (3, .ref (o + 423)), (2, .ref (o + 407)), (1, .ref o), (0, .ref b)] []) : bz_G l E mL_law room_1 [] z0 (lw_F s0 b) sz k n L g 1206 [(5, .int (nI i)), (4, .ref (o + 424)), (3, .ref (o + 423)), (2, .ref (o + 407)), (1, .ref o), (0, .ref b)] [] := by
  refine g_aload_n (q := 1207) dL_law_1206 rfl rfl ?_
  refine g_aload_n (q := 1208) dL_law_1207 rfl rfl ?_
  refine g_iload (q := 1210) dL_law_1208 rfl rfl ?_
  refine g_iconst (q := 1211) (v := (nI 1)) dL_law_1210 rfl (by decide) ?_
  refine g_iaddN (q := 1212) dL_law_1211 rfl ?_
  refine gz_ld (q := 1213) hX hbl hN (by omega) dL_law_1212 rfl ?_
  refine g_aload_n (q := 1214) dL_law_1213 rfl rfl ?_
  refine gl_callH (q := 1217) dL_law_1214 rfl kh_L_171 rfl (pr_forwarded hl hJ (xs (i + 1))) (by decide) (by decide) rfl (bz_le rfl) hkc hns (fun r g1 z1 hz1 hQ => ?_)
  obtain ⟨k9, hk9, rfl, ⟨hmL, fsm, hmg⟩, d2, hd2, hK2⟩ := hQ
  refine g_istore (q := 1219) dL_law_1217 rfl (by decide) rfl ?_
  refine g_aload_n (q := 1220) dL_law_1219 rfl rfl ?_
  refine g_aload_n (q := 1221) dL_law_1220 rfl rfl ?_
  refine g_iload (q := 1223) dL_law_1221 rfl rfl ?_
  refine g_iconst (q := 1224) (v := (nI 1)) dL_law_1223 rfl (by decide) ?_
  refine g_iaddN (q := 1225) dL_law_1224 rfl ?_
  refine gz_ld (q := 1226) hX hbl hN (by omega) dL_law_1225 rfl ?_
  refine gl_callV (q := 1229) dL_law_1226 rfl kv_L_173 rfl hK2 (by show d2 < 2048; omega) (by show 64 * d2 + 64 ≤ 84000; omega) hmL hmg rfl (bz_le rfl) hkc hns (fun r g2 hQ => ?_)
  obtain ⟨v, rfl, A1, I1, B1, U1, V1, hJ, hI, hU⟩ := hQ
  obtain ⟨hmL2, fsm2, hmg2⟩ := lw_m9 hJ.2.1
  refine g_istore (q := 1231) dL_law_1229 rfl (by decide) rfl ?_
  refine g_aload_n (q := 1232) dL_law_1231 rfl rfl ?_
  refine gl_callV (q := 1235) dL_law_1232 rfl kv_L_115 rfl (c_mthrown hJ.2.1) (by decide) (by decide) hmL2 hmg2 rfl (bz_le rfl) hkc hns (fun r g3 hQ => ?_)
  obtain ⟨rfl, hg9⟩ := hQ
  have hg9 := hg9.symm
  subst hg9
  have hB := bz_B.rf (bz_W.one hJ.2.2.1)
  refine g_iload (q := 1237) dL_law_1235 rfl rfl ?_
  refine g_icmp_eq (q := 1240) (t := 1242) dL_law_1237 rfl (by decide) (fun _ => ?_) (fun c => absurd (hI) c)
  refine g_iload (q := 1244) dL_law_1242 rfl rfl ?_
  refine g_ifN_ne (q := 1247) (t := 1259) dL_law_1244 rfl (by decide) (by omega) (fun c_1244 => ?_) (fun c_1244 => ?_)
  · refine g_goto (q := 2172) dL_law_1259 (by decide) ?_
    refine g_lvs (lv1 := [(5, .int (nI i)), (4, .ref (o + 424)), (3, .ref (o + 423)), (2, .ref (o + 407)), (1, .ref o), (0, .ref b)]) ⟨rfl, rfl, rfl, rfl, rfl, rfl, trivial⟩ ?_
    exact kk _ _ _ _ _ _ _ hJ
  · refine g_aload_n (q := 1248) dL_law_1247 rfl rfl ?_
    refine g_iconst (q := 1249) (v := (nI 0)) dL_law_1248 rfl (by decide) ?_
    refine gb_laldN (q := 1250) (j := 0) (i := 0) dL_law_1249 rfl hB rfl rfl rfl (by omega) (by decide) ?_
    refine g_iload (q := 1252) dL_law_1250 rfl rfl ?_
    refine g_i2l (q := 1253) dL_law_1252 rfl ?_
    refine g_lcmp (q := 1254) dL_law_1253 rfl ?_
    refine g_if_eq (q := 1257) (t := 1259) dL_law_1254 rfl (by decide) (fun _ => ?_) (fun c => absurd (by rw [hU c_1244]; exact lw_lc _) c)
    refine g_goto (q := 2172) dL_law_1259 (by decide) ?_
    refine g_lvs (lv1 := [(5, .int (nI i)), (4, .ref (o + 424)), (3, .ref (o + 423)), (2, .ref (o + 407)), (1, .ref o), (0, .ref b)]) ⟨rfl, rfl, rfl, rfl, rfl, rfl, trivial⟩ ?_
    exact kk _ _ _ _ _ _ _ hJ
set_option maxRecDepth 20000 in
set_option maxHeartbeats 1000000 in
theorem lb_18 {l : Launch} {E : bz_E} {z0 : Nat} {s0 : State} {b N : Nat} {xs : Nat → Int32} {sz k n : Nat} {L : List Nat} {g : Nat → va_E} {o i : Nat} {A : WA} {I : Nat → Int32} {B : Nat → Nat → Int32} {U : Nat → Int64} {V : Nat → UInt64} (hl : l.stackTraces = false) (hX : va_X b N xs s0 s0.heap) (hbl : b < s0.heap.size) (hN : N ≤ 3072) (hi : i + 6 ≤ N) (hJ : lw_J E L g o A I B U V) (hkc : k + 1 ≤ 601024) (hns : n + 6 ≤ 7293034) (kk : ∀ (g1 : Nat → va_E) (z1 : Nat) (A1 : WA) (I1 : Nat → Int32) (B1 : Nat → Nat → Int32) (U1 : Nat → Int64) (V1 : Nat → UInt64), lw_J E L g1 o A1 I1 B1 U1 V1 → bz_G l E mL_law room_1 [] z0 (lw_F s0 b) z1 (k + 1) (n + 6) L g1 2172 [(5, .int (nI i)), (4, .ref (o + 424)), (3, .ref (o + 423)), (2, .ref (o + 407)), (1, .ref o), (0, .ref b)] []) : bz_G l E mL_law room_1 [] z0 (lw_F s0 b) sz k n L g 1262 [(5, .int (nI i)), (4, .ref (o + 424)), (3, .ref (o + 423)), (2, .ref (o + 407)), (1, .ref o), (0, .ref b)] [] := by
  refine g_aload_n (q := 1263) dL_law_1262 rfl rfl ?_
  refine g_aload_n (q := 1264) dL_law_1263 rfl rfl ?_
  refine g_iload (q := 1266) dL_law_1264 rfl rfl ?_
  refine g_iconst (q := 1267) (v := (nI 1)) dL_law_1266 rfl (by decide) ?_
  refine g_iaddN (q := 1268) dL_law_1267 rfl ?_
  refine gz_ld (q := 1269) hX hbl hN (by omega) dL_law_1268 rfl ?_
  refine g_aload_n (q := 1270) dL_law_1269 rfl rfl ?_
  refine gl_callH (q := 1273) dL_law_1270 rfl kh_L_174 rfl (pr_passings hl hJ (xs (i + 1))) (by decide) (by decide) rfl (bz_le rfl) hkc hns (fun r g1 z1 hz1 hQ => ?_)
  obtain ⟨k9, hk9, rfl, ⟨hmL, fsm, hmg⟩, d2, hd2, hK2⟩ := hQ
  refine g_istore (q := 1275) dL_law_1273 rfl (by decide) rfl ?_
  refine g_aload_n (q := 1276) dL_law_1275 rfl rfl ?_
  refine g_aload_n (q := 1277) dL_law_1276 rfl rfl ?_
  refine g_iload (q := 1279) dL_law_1277 rfl rfl ?_
  refine g_iconst (q := 1280) (v := (nI 1)) dL_law_1279 rfl (by decide) ?_
  refine g_iaddN (q := 1281) dL_law_1280 rfl ?_
  refine gz_ld (q := 1282) hX hbl hN (by omega) dL_law_1281 rfl ?_
  refine gl_callV (q := 1285) dL_law_1282 rfl kv_L_176 rfl hK2 (by show d2 < 2048; omega) (by show 64 * d2 + 64 ≤ 84000; omega) hmL hmg rfl (bz_le rfl) hkc hns (fun r g2 hQ => ?_)
  obtain ⟨v, rfl, A1, I1, B1, U1, V1, hJ, hI, hU⟩ := hQ
  obtain ⟨hmL2, fsm2, hmg2⟩ := lw_m9 hJ.2.1
  refine g_istore (q := 1287) dL_law_1285 rfl (by decide) rfl ?_
  refine g_aload_n (q := 1288) dL_law_1287 rfl rfl ?_
  refine gl_callV (q := 1291) dL_law_1288 rfl kv_L_115 rfl (c_mthrown hJ.2.1) (by decide) (by decide) hmL2 hmg2 rfl (bz_le rfl) hkc hns (fun r g3 hQ => ?_)
  obtain ⟨rfl, hg9⟩ := hQ
  have hg9 := hg9.symm
  subst hg9
  have hB := bz_B.rf (bz_W.one hJ.2.2.1)
  refine g_iload (q := 1293) dL_law_1291 rfl rfl ?_
  refine g_icmp_eq (q := 1296) (t := 1298) dL_law_1293 rfl (by decide) (fun _ => ?_) (fun c => absurd (hI) c)
  refine g_iload (q := 1300) dL_law_1298 rfl rfl ?_
  refine g_ifN_ne (q := 1303) (t := 1315) dL_law_1300 rfl (by decide) (by omega) (fun c_1300 => ?_) (fun c_1300 => ?_)
  · refine g_goto (q := 2172) dL_law_1315 (by decide) ?_
    refine g_lvs (lv1 := [(5, .int (nI i)), (4, .ref (o + 424)), (3, .ref (o + 423)), (2, .ref (o + 407)), (1, .ref o), (0, .ref b)]) ⟨rfl, rfl, rfl, rfl, rfl, rfl, trivial⟩ ?_
    exact kk _ _ _ _ _ _ _ hJ
  · refine g_aload_n (q := 1304) dL_law_1303 rfl rfl ?_
    refine g_iconst (q := 1305) (v := (nI 0)) dL_law_1304 rfl (by decide) ?_
    refine gb_laldN (q := 1306) (j := 0) (i := 0) dL_law_1305 rfl hB rfl rfl rfl (by omega) (by decide) ?_
    refine g_iload (q := 1308) dL_law_1306 rfl rfl ?_
    refine g_i2l (q := 1309) dL_law_1308 rfl ?_
    refine g_lcmp (q := 1310) dL_law_1309 rfl ?_
    refine g_if_eq (q := 1313) (t := 1315) dL_law_1310 rfl (by decide) (fun _ => ?_) (fun c => absurd (by rw [hU c_1300]; exact lw_lc _) c)
    refine g_goto (q := 2172) dL_law_1315 (by decide) ?_
    refine g_lvs (lv1 := [(5, .int (nI i)), (4, .ref (o + 424)), (3, .ref (o + 423)), (2, .ref (o + 407)), (1, .ref o), (0, .ref b)]) ⟨rfl, rfl, rfl, rfl, rfl, rfl, trivial⟩ ?_
    exact kk _ _ _ _ _ _ _ hJ
set_option maxRecDepth 20000 in
set_option maxHeartbeats 1000000 in
theorem lb_19 {l : Launch} {E : bz_E} {z0 : Nat} {s0 : State} {b N : Nat} {xs : Nat → Int32} {sz k n : Nat} {L : List Nat} {g : Nat → va_E} {o i : Nat} {A : WA} {I : Nat → Int32} {B : Nat → Nat → Int32} {U : Nat → Int64} {V : Nat → UInt64} (hl : l.stackTraces = false) (hX : va_X b N xs s0 s0.heap) (hbl : b < s0.heap.size) (hN : N ≤ 3072) (hi : i + 6 ≤ N) (hJ : lw_J E L g o A I B U V) (hkc : k + 1 ≤ 601024) (hns : n + 6 ≤ 7293034) (kk : ∀ (g1 : Nat → va_E) (z1 : Nat) (A1 : WA) (I1 : Nat → Int32) (B1 : Nat → Nat → Int32) (U1 : Nat → Int64) (V1 : Nat → UInt64), lw_J E L g1 o A1 I1 B1 U1 V1 → bz_G l E mL_law room_1 [] z0 (lw_F s0 b) z1 (k + 1) (n + 6) L g1 2172 [(5, .int (nI i)), (4, .ref (o + 424)), (3, .ref (o + 423)), (2, .ref (o + 407)), (1, .ref o), (0, .ref b)] []) : bz_G l E mL_law room_1 [] z0 (lw_F s0 b) sz k n L g 1318 [(5, .int (nI i)), (4, .ref (o + 424)), (3, .ref (o + 423)), (2, .ref (o + 407)), (1, .ref o), (0, .ref b)] [] := by
  refine g_aload_n (q := 1319) dL_law_1318 rfl rfl ?_
  refine g_aload_n (q := 1320) dL_law_1319 rfl rfl ?_
  refine g_iload (q := 1322) dL_law_1320 rfl rfl ?_
  refine g_iconst (q := 1323) (v := (nI 1)) dL_law_1322 rfl (by decide) ?_
  refine g_iaddN (q := 1324) dL_law_1323 rfl ?_
  refine gz_ld (q := 1325) hX hbl hN (by omega) dL_law_1324 rfl ?_
  refine g_aload (q := 1327) dL_law_1325 rfl rfl ?_
  refine gl_callH (q := 1330) dL_law_1327 rfl kh_L_177 rfl (pd_utilisation hl hJ (xs (i + 1))) (by decide) (by decide) rfl (bz_le rfl) hkc hns (fun r g1 z1 hz1 hQ => ?_)
  obtain ⟨k9, hk9, rfl, ⟨hmL, fsm, hmg⟩, d2, hd2, hK2⟩ := hQ
  refine g_istore (q := 1332) dL_law_1330 rfl (by decide) rfl ?_
  refine g_aload_n (q := 1333) dL_law_1332 rfl rfl ?_
  refine g_aload_n (q := 1334) dL_law_1333 rfl rfl ?_
  refine g_iload (q := 1336) dL_law_1334 rfl rfl ?_
  refine g_iconst (q := 1337) (v := (nI 1)) dL_law_1336 rfl (by decide) ?_
  refine g_iaddN (q := 1338) dL_law_1337 rfl ?_
  refine gz_ld (q := 1339) hX hbl hN (by omega) dL_law_1338 rfl ?_
  refine gl_callV (q := 1342) dL_law_1339 rfl kv_L_180 rfl hK2 (by show d2 < 2048; omega) (by show 64 * d2 + 64 ≤ 84000; omega) hmL hmg rfl (bz_le rfl) hkc hns (fun r g2 hQ => ?_)
  obtain ⟨vl, dv, rfl, ⟨rfl, hdz⟩, A1, I1, B1, U1, V1, hJ, hI, hU⟩ := hQ
  obtain ⟨hmL2, fsm2, hmg2⟩ := lw_m9 hJ.2.1
  refine g_dstore (q := 1344) dL_law_1342 rfl (by decide) rfl ?_
  refine g_aload_n (q := 1345) dL_law_1344 rfl rfl ?_
  refine gl_callV (q := 1348) dL_law_1345 rfl kv_L_115 rfl (c_mthrown hJ.2.1) (by decide) (by decide) hmL2 hmg2 rfl (bz_le rfl) hkc hns (fun r g3 hQ => ?_)
  obtain ⟨rfl, hg9⟩ := hQ
  have hg9 := hg9.symm
  subst hg9
  have hB := bz_B.rf (bz_W.one hJ.2.2.2.1)
  refine g_iload (q := 1350) dL_law_1348 rfl rfl ?_
  refine g_icmp_eq (q := 1353) (t := 1355) dL_law_1350 rfl (by decide) (fun _ => ?_) (fun c => absurd (hI) c)
  refine g_iload (q := 1357) dL_law_1355 rfl rfl ?_
  refine g_ifN_ne (q := 1360) (t := 1392) dL_law_1357 rfl (by decide) (by omega) (fun c_1357 => ?_) (fun c_1357 => ?_)
  · refine g_goto (q := 2172) dL_law_1392 (by decide) ?_
    refine g_lvs (lv1 := [(5, .int (nI i)), (4, .ref (o + 424)), (3, .ref (o + 423)), (2, .ref (o + 407)), (1, .ref o), (0, .ref b)]) ⟨rfl, rfl, rfl, rfl, rfl, rfl, trivial⟩ ?_
    exact kk _ _ _ _ _ _ _ hJ
  · refine g_aload (q := 1362) dL_law_1360 rfl rfl ?_
    refine g_iconst (q := 1363) (v := (nI 0)) dL_law_1362 rfl (by decide) ?_
    refine gb_daldN (q := 1364) (j := 0) (i := 0) dL_law_1363 rfl hB rfl rfl rfl (by omega) (by decide) ?_
    refine g_dload (q := 1366) dL_law_1364 rfl rfl ?_
    refine g_dcmp (q := 1367) dL_law_1366 rfl ?_
    refine g_if_eq (q := 1370) (t := 1392) dL_law_1367 rfl (by decide) (fun _ => ?_) (fun c => absurd (by rw [hU c_1357, hdz.cmps]; rfl) c)
    refine g_goto (q := 2172) dL_law_1392 (by decide) ?_
    refine g_lvs (lv1 := [(5, .int (nI i)), (4, .ref (o + 424)), (3, .ref (o + 423)), (2, .ref (o + 407)), (1, .ref o), (0, .ref b)]) ⟨rfl, rfl, rfl, rfl, rfl, rfl, trivial⟩ ?_
    exact kk _ _ _ _ _ _ _ hJ
set_option maxRecDepth 20000 in
set_option maxHeartbeats 1000000 in
theorem lb_20 {l : Launch} {E : bz_E} {z0 : Nat} {s0 : State} {b N : Nat} {xs : Nat → Int32} {sz k n : Nat} {L : List Nat} {g : Nat → va_E} {o i : Nat} {A : WA} {I : Nat → Int32} {B : Nat → Nat → Int32} {U : Nat → Int64} {V : Nat → UInt64} (hl : l.stackTraces = false) (hX : va_X b N xs s0 s0.heap) (hbl : b < s0.heap.size) (hN : N ≤ 3072) (hi : i + 6 ≤ N) (hJ : lw_J E L g o A I B U V) (hkc : k + 1 ≤ 601024) (hns : n + 6 ≤ 7293034) (kk : ∀ (g1 : Nat → va_E) (z1 : Nat) (A1 : WA) (I1 : Nat → Int32) (B1 : Nat → Nat → Int32) (U1 : Nat → Int64) (V1 : Nat → UInt64), lw_J E L g1 o A1 I1 B1 U1 V1 → bz_G l E mL_law room_1 [] z0 (lw_F s0 b) z1 (k + 1) (n + 6) L g1 2172 [(5, .int (nI i)), (4, .ref (o + 424)), (3, .ref (o + 423)), (2, .ref (o + 407)), (1, .ref o), (0, .ref b)] []) : bz_G l E mL_law room_1 [] z0 (lw_F s0 b) sz k n L g 1395 [(5, .int (nI i)), (4, .ref (o + 424)), (3, .ref (o + 423)), (2, .ref (o + 407)), (1, .ref o), (0, .ref b)] [] := by
  refine g_aload_n (q := 1396) dL_law_1395 rfl rfl ?_
  refine g_aload_n (q := 1397) dL_law_1396 rfl rfl ?_
  refine g_iload (q := 1399) dL_law_1397 rfl rfl ?_
  refine g_iconst (q := 1400) (v := (nI 1)) dL_law_1399 rfl (by decide) ?_
  refine g_iaddN (q := 1401) dL_law_1400 rfl ?_
  refine gz_ld (q := 1402) hX hbl hN (by omega) dL_law_1401 rfl ?_
  refine g_aload (q := 1404) dL_law_1402 rfl rfl ?_
  refine gl_callH (q := 1407) dL_law_1404 rfl kh_L_181 rfl (pd_averageWait hl hJ (xs (i + 1))) (by decide) (by decide) rfl (bz_le rfl) hkc hns (fun r g1 z1 hz1 hQ => ?_)
  obtain ⟨k9, hk9, rfl, ⟨hmL, fsm, hmg⟩, d2, hd2, hK2⟩ := hQ
  refine g_istore (q := 1409) dL_law_1407 rfl (by decide) rfl ?_
  refine g_aload_n (q := 1410) dL_law_1409 rfl rfl ?_
  refine g_aload_n (q := 1411) dL_law_1410 rfl rfl ?_
  refine g_iload (q := 1413) dL_law_1411 rfl rfl ?_
  refine g_iconst (q := 1414) (v := (nI 1)) dL_law_1413 rfl (by decide) ?_
  refine g_iaddN (q := 1415) dL_law_1414 rfl ?_
  refine gz_ld (q := 1416) hX hbl hN (by omega) dL_law_1415 rfl ?_
  refine gl_callV (q := 1419) dL_law_1416 rfl kv_L_183 rfl hK2 (by show d2 < 2048; omega) (by show 64 * d2 + 64 ≤ 84000; omega) hmL hmg rfl (bz_le rfl) hkc hns (fun r g2 hQ => ?_)
  obtain ⟨vl, dv, rfl, ⟨fv, rfl, rfl, hdz⟩, A1, I1, B1, U1, V1, hJ, hI, hU⟩ := hQ
  obtain ⟨hmL2, fsm2, hmg2⟩ := lw_m9 hJ.2.1
  refine g_fstore (q := 1421) dL_law_1419 rfl (by decide) rfl ?_
  refine g_aload_n (q := 1422) dL_law_1421 rfl rfl ?_
  refine gl_callV (q := 1425) dL_law_1422 rfl kv_L_115 rfl (c_mthrown hJ.2.1) (by decide) (by decide) hmL2 hmg2 rfl (bz_le rfl) hkc hns (fun r g3 hQ => ?_)
  obtain ⟨rfl, hg9⟩ := hQ
  have hg9 := hg9.symm
  subst hg9
  have hB := bz_B.rf (bz_W.one hJ.2.2.2.1)
  refine g_iload (q := 1427) dL_law_1425 rfl rfl ?_
  refine g_icmp_eq (q := 1430) (t := 1432) dL_law_1427 rfl (by decide) (fun _ => ?_) (fun c => absurd (hI) c)
  refine g_iload (q := 1434) dL_law_1432 rfl rfl ?_
  refine g_ifN_ne (q := 1437) (t := 1470) dL_law_1434 rfl (by decide) (by omega) (fun c_1434 => ?_) (fun c_1434 => ?_)
  · refine g_goto (q := 2172) dL_law_1470 (by decide) ?_
    refine g_lvs (lv1 := [(5, .int (nI i)), (4, .ref (o + 424)), (3, .ref (o + 423)), (2, .ref (o + 407)), (1, .ref o), (0, .ref b)]) ⟨rfl, rfl, rfl, rfl, rfl, rfl, trivial⟩ ?_
    exact kk _ _ _ _ _ _ _ hJ
  · refine g_aload (q := 1439) dL_law_1437 rfl rfl ?_
    refine g_iconst (q := 1440) (v := (nI 0)) dL_law_1439 rfl (by decide) ?_
    refine gb_daldN (q := 1441) (j := 0) (i := 0) dL_law_1440 rfl hB rfl rfl rfl (by omega) (by decide) ?_
    refine g_fload (q := 1443) dL_law_1441 rfl rfl ?_
    refine g_f2d (q := 1444) dL_law_1443 rfl hdz.n64 ?_
    refine g_dcmp (q := 1445) dL_law_1444 rfl ?_
    refine g_if_eq (q := 1448) (t := 1470) dL_law_1445 rfl (by decide) (fun _ => ?_) (fun c => absurd (by rw [hU c_1434, hdz.cmps]; rfl) c)
    refine g_goto (q := 2172) dL_law_1470 (by decide) ?_
    refine g_lvs (lv1 := [(5, .int (nI i)), (4, .ref (o + 424)), (3, .ref (o + 423)), (2, .ref (o + 407)), (1, .ref o), (0, .ref b)]) ⟨rfl, rfl, rfl, rfl, rfl, rfl, trivial⟩ ?_
    exact kk _ _ _ _ _ _ _ hJ
set_option maxRecDepth 20000 in
set_option maxHeartbeats 1000000 in
theorem lb_21 {l : Launch} {E : bz_E} {z0 : Nat} {s0 : State} {b N : Nat} {xs : Nat → Int32} {sz k n : Nat} {L : List Nat} {g : Nat → va_E} {o i : Nat} {A : WA} {I : Nat → Int32} {B : Nat → Nat → Int32} {U : Nat → Int64} {V : Nat → UInt64} (hl : l.stackTraces = false) (hX : va_X b N xs s0 s0.heap) (hbl : b < s0.heap.size) (hN : N ≤ 3072) (hi : i + 6 ≤ N) (hJ : lw_J E L g o A I B U V) (hkc : k + 1 ≤ 601024) (hns : n + 6 ≤ 7293034) (kk : ∀ (g1 : Nat → va_E) (z1 : Nat) (A1 : WA) (I1 : Nat → Int32) (B1 : Nat → Nat → Int32) (U1 : Nat → Int64) (V1 : Nat → UInt64), lw_J E L g1 o A1 I1 B1 U1 V1 → bz_G l E mL_law room_1 [] z0 (lw_F s0 b) z1 (k + 1) (n + 6) L g1 2172 [(5, .int (nI i)), (4, .ref (o + 424)), (3, .ref (o + 423)), (2, .ref (o + 407)), (1, .ref o), (0, .ref b)] []) : bz_G l E mL_law room_1 [] z0 (lw_F s0 b) sz k n L g 1473 [(5, .int (nI i)), (4, .ref (o + 424)), (3, .ref (o + 423)), (2, .ref (o + 407)), (1, .ref o), (0, .ref b)] [] := by
  obtain ⟨d2, hd2, hK1⟩ := pn_ratioBits hl hJ 
  obtain ⟨hoL, fso, hog⟩ := lw_m8 hJ.1
  refine g_widen (k1 := k + 1) (n1 := n + 6) (by omega) (by omega) ?_
  refine g_aload_n (q := 1474) dL_law_1473 rfl rfl ?_
  refine gl_callV (q := 1477) dL_law_1474 rfl kv_L_184 rfl hK1 (by show d2 < 2048; omega) (by show 64 * d2 + 64 ≤ 84000; omega) hoL hog rfl (bz_le rfl) hkc hns (fun r g1 hQ => ?_)
  obtain ⟨v, rfl, ⟨hmL, fsm, hmg⟩, d3, hd3, hK2⟩ := hQ
  refine g_aload_n (q := 1478) dL_law_1477 rfl rfl ?_
  refine gl_callV (q := 1481) dL_law_1478 rfl kv_L_187 rfl hK2 (by show d3 < 2048; omega) (by show 64 * d3 + 64 ≤ 84000; omega) hmL hmg rfl (bz_le rfl) hkc hns (fun r g2 hQ => ?_)
  obtain ⟨rfl, A1, I1, B1, U1, V1, hJ⟩ := hQ
  refine g_icmp_eq (q := 1484) (t := 2172) dL_law_1481 rfl (by decide) (fun _ => ?_) (fun c => absurd (rfl) c)
  refine g_lvs (lv1 := [(5, .int (nI i)), (4, .ref (o + 424)), (3, .ref (o + 423)), (2, .ref (o + 407)), (1, .ref o), (0, .ref b)]) ⟨rfl, rfl, rfl, rfl, rfl, rfl, trivial⟩ ?_
  exact kk _ _ _ _ _ _ _ hJ
set_option maxRecDepth 20000 in
set_option maxHeartbeats 1000000 in
theorem lb_22 {l : Launch} {E : bz_E} {z0 : Nat} {s0 : State} {b N : Nat} {xs : Nat → Int32} {sz k n : Nat} {L : List Nat} {g : Nat → va_E} {o i : Nat} {A : WA} {I : Nat → Int32} {B : Nat → Nat → Int32} {U : Nat → Int64} {V : Nat → UInt64} (hl : l.stackTraces = false) (hX : va_X b N xs s0 s0.heap) (hbl : b < s0.heap.size) (hN : N ≤ 3072) (hi : i + 6 ≤ N) (hJ : lw_J E L g o A I B U V) (hkc : k + 1 ≤ 601024) (hns : n + 6 ≤ 7293034) (kk : ∀ (g1 : Nat → va_E) (z1 : Nat) (A1 : WA) (I1 : Nat → Int32) (B1 : Nat → Nat → Int32) (U1 : Nat → Int64) (V1 : Nat → UInt64), lw_J E L g1 o A1 I1 B1 U1 V1 → bz_G l E mL_law room_1 [] z0 (lw_F s0 b) z1 (k + 1) (n + 6) L g1 2172 [(5, .int (nI i)), (4, .ref (o + 424)), (3, .ref (o + 423)), (2, .ref (o + 407)), (1, .ref o), (0, .ref b)] []) : bz_G l E mL_law room_1 [] z0 (lw_F s0 b) sz k n L g 1486 [(5, .int (nI i)), (4, .ref (o + 424)), (3, .ref (o + 423)), (2, .ref (o + 407)), (1, .ref o), (0, .ref b)] [] := by
  obtain ⟨d2, hd2, hK1⟩ := pn_ticksToRest hl hJ 
  obtain ⟨hoL, fso, hog⟩ := lw_m8 hJ.1
  refine g_widen (k1 := k + 1) (n1 := n + 6) (by omega) (by omega) ?_
  refine g_aload_n (q := 1487) dL_law_1486 rfl rfl ?_
  refine gl_callV (q := 1490) dL_law_1487 rfl kv_L_188 rfl hK1 (by show d2 < 2048; omega) (by show 64 * d2 + 64 ≤ 84000; omega) hoL hog rfl (bz_le rfl) hkc hns (fun r g1 hQ => ?_)
  obtain ⟨v, rfl, ⟨hmL, fsm, hmg⟩, d3, hd3, hK2⟩ := hQ
  refine g_aload_n (q := 1491) dL_law_1490 rfl rfl ?_
  refine gl_callV (q := 1494) dL_law_1491 rfl kv_L_191 rfl hK2 (by show d3 < 2048; omega) (by show 64 * d3 + 64 ≤ 84000; omega) hmL hmg rfl (bz_le rfl) hkc hns (fun r g2 hQ => ?_)
  obtain ⟨rfl, A1, I1, B1, U1, V1, hJ⟩ := hQ
  refine g_icmp_eq (q := 1497) (t := 2172) dL_law_1494 rfl (by decide) (fun _ => ?_) (fun c => absurd (rfl) c)
  refine g_lvs (lv1 := [(5, .int (nI i)), (4, .ref (o + 424)), (3, .ref (o + 423)), (2, .ref (o + 407)), (1, .ref o), (0, .ref b)]) ⟨rfl, rfl, rfl, rfl, rfl, rfl, trivial⟩ ?_
  exact kk _ _ _ _ _ _ _ hJ
set_option maxRecDepth 20000 in
set_option maxHeartbeats 1000000 in
theorem lb_23 {l : Launch} {E : bz_E} {z0 : Nat} {s0 : State} {b N : Nat} {xs : Nat → Int32} {sz k n : Nat} {L : List Nat} {g : Nat → va_E} {o i : Nat} {A : WA} {I : Nat → Int32} {B : Nat → Nat → Int32} {U : Nat → Int64} {V : Nat → UInt64} (hl : l.stackTraces = false) (hX : va_X b N xs s0 s0.heap) (hbl : b < s0.heap.size) (hN : N ≤ 3072) (hi : i + 6 ≤ N) (hJ : lw_J E L g o A I B U V) (hkc : k + 1 ≤ 601024) (hns : n + 6 ≤ 7293034) (kk : ∀ (g1 : Nat → va_E) (z1 : Nat) (A1 : WA) (I1 : Nat → Int32) (B1 : Nat → Nat → Int32) (U1 : Nat → Int64) (V1 : Nat → UInt64), lw_J E L g1 o A1 I1 B1 U1 V1 → bz_G l E mL_law room_1 [] z0 (lw_F s0 b) z1 (k + 1) (n + 6) L g1 2172 [(5, .int (nI i)), (4, .ref (o + 424)), (3, .ref (o + 423)), (2, .ref (o + 407)), (1, .ref o), (0, .ref b)] []) : bz_G l E mL_law room_1 [] z0 (lw_F s0 b) sz k n L g 1499 [(5, .int (nI i)), (4, .ref (o + 424)), (3, .ref (o + 423)), (2, .ref (o + 407)), (1, .ref o), (0, .ref b)] [] := by
  obtain ⟨d2, hd2, hK1⟩ := pn_isStuck hl hJ 
  obtain ⟨hoL, fso, hog⟩ := lw_m8 hJ.1
  refine g_widen (k1 := k + 1) (n1 := n + 6) (by omega) (by omega) ?_
  refine g_aload_n (q := 1500) dL_law_1499 rfl rfl ?_
  refine gl_callV (q := 1503) dL_law_1500 rfl kv_L_192 rfl hK1 (by show d2 < 2048; omega) (by show 64 * d2 + 64 ≤ 84000; omega) hoL hog rfl (bz_le rfl) hkc hns (fun r g1 hQ => ?_)
  obtain ⟨v, rfl, ⟨hmL, fsm, hmg⟩, d3, hd3, hK2⟩ := hQ
  refine g_aload_n (q := 1504) dL_law_1503 rfl rfl ?_
  refine gl_callV (q := 1507) dL_law_1504 rfl kv_L_195 rfl hK2 (by show d3 < 2048; omega) (by show 64 * d3 + 64 ≤ 84000; omega) hmL hmg rfl (bz_le rfl) hkc hns (fun r g2 hQ => ?_)
  obtain ⟨rfl, A1, I1, B1, U1, V1, hJ⟩ := hQ
  refine g_icmp_eq (q := 1510) (t := 2172) dL_law_1507 rfl (by decide) (fun _ => ?_) (fun c => absurd (rfl) c)
  refine g_lvs (lv1 := [(5, .int (nI i)), (4, .ref (o + 424)), (3, .ref (o + 423)), (2, .ref (o + 407)), (1, .ref o), (0, .ref b)]) ⟨rfl, rfl, rfl, rfl, rfl, rfl, trivial⟩ ?_
  exact kk _ _ _ _ _ _ _ hJ
set_option maxRecDepth 20000 in
set_option maxHeartbeats 1000000 in
theorem lb_24 {l : Launch} {E : bz_E} {z0 : Nat} {s0 : State} {b N : Nat} {xs : Nat → Int32} {sz k n : Nat} {L : List Nat} {g : Nat → va_E} {o i : Nat} {A : WA} {I : Nat → Int32} {B : Nat → Nat → Int32} {U : Nat → Int64} {V : Nat → UInt64} (hl : l.stackTraces = false) (hX : va_X b N xs s0 s0.heap) (hbl : b < s0.heap.size) (hN : N ≤ 3072) (hi : i + 6 ≤ N) (hJ : lw_J E L g o A I B U V) (hkc : k + 1 ≤ 601024) (hns : n + 6 ≤ 7293034) (kk : ∀ (g1 : Nat → va_E) (z1 : Nat) (A1 : WA) (I1 : Nat → Int32) (B1 : Nat → Nat → Int32) (U1 : Nat → Int64) (V1 : Nat → UInt64), lw_J E L g1 o A1 I1 B1 U1 V1 → bz_G l E mL_law room_1 [] z0 (lw_F s0 b) z1 (k + 1) (n + 6) L g1 2172 [(5, .int (nI i)), (4, .ref (o + 424)), (3, .ref (o + 423)), (2, .ref (o + 407)), (1, .ref o), (0, .ref b)] []) : bz_G l E mL_law room_1 [] z0 (lw_F s0 b) sz k n L g 1512 [(5, .int (nI i)), (4, .ref (o + 424)), (3, .ref (o + 423)), (2, .ref (o + 407)), (1, .ref o), (0, .ref b)] [] := by
  refine g_aload_n (q := 1513) dL_law_1512 rfl rfl ?_
  refine g_aload_n (q := 1514) dL_law_1513 rfl rfl ?_
  refine g_iload (q := 1516) dL_law_1514 rfl rfl ?_
  refine g_iconst (q := 1517) (v := (nI 1)) dL_law_1516 rfl (by decide) ?_
  refine g_iaddN (q := 1518) dL_law_1517 rfl ?_
  refine gz_ld (q := 1519) hX hbl hN (by omega) dL_law_1518 rfl ?_
  refine g_aload_n (q := 1520) dL_law_1519 rfl rfl ?_
  refine g_iload (q := 1522) dL_law_1520 rfl rfl ?_
  refine g_iconst (q := 1523) (v := (nI 2)) dL_law_1522 rfl (by decide) ?_
  refine g_iaddN (q := 1524) dL_law_1523 rfl ?_
  refine gz_ld (q := 1525) hX hbl hN (by omega) dL_law_1524 rfl ?_
  refine g_aload_n (q := 1526) dL_law_1525 rfl rfl ?_
  refine gl_callH (q := 1529) dL_law_1526 rfl kh_L_196 rfl (pr_completeTick hl hJ (xs (i + 1)) (xs (i + 2))) (by decide) (by decide) rfl (bz_le rfl) hkc hns (fun r g1 z1 hz1 hQ => ?_)
  obtain ⟨k9, hk9, rfl, ⟨hmL, fsm, hmg⟩, d2, hd2, hK2⟩ := hQ
  refine g_istore (q := 1531) dL_law_1529 rfl (by decide) rfl ?_
  refine g_aload_n (q := 1532) dL_law_1531 rfl rfl ?_
  refine g_aload_n (q := 1533) dL_law_1532 rfl rfl ?_
  refine g_iload (q := 1535) dL_law_1533 rfl rfl ?_
  refine g_iconst (q := 1536) (v := (nI 1)) dL_law_1535 rfl (by decide) ?_
  refine g_iaddN (q := 1537) dL_law_1536 rfl ?_
  refine gz_ld (q := 1538) hX hbl hN (by omega) dL_law_1537 rfl ?_
  refine g_aload_n (q := 1539) dL_law_1538 rfl rfl ?_
  refine g_iload (q := 1541) dL_law_1539 rfl rfl ?_
  refine g_iconst (q := 1542) (v := (nI 2)) dL_law_1541 rfl (by decide) ?_
  refine g_iaddN (q := 1543) dL_law_1542 rfl ?_
  refine gz_ld (q := 1544) hX hbl hN (by omega) dL_law_1543 rfl ?_
  refine gl_callV (q := 1547) dL_law_1544 rfl kv_L_198 rfl hK2 (by show d2 < 2048; omega) (by show 64 * d2 + 64 ≤ 84000; omega) hmL hmg rfl (bz_le rfl) hkc hns (fun r g2 hQ => ?_)
  obtain ⟨v, rfl, A1, I1, B1, U1, V1, hJ, hI, hU⟩ := hQ
  obtain ⟨hmL2, fsm2, hmg2⟩ := lw_m9 hJ.2.1
  refine g_istore (q := 1549) dL_law_1547 rfl (by decide) rfl ?_
  refine g_aload_n (q := 1550) dL_law_1549 rfl rfl ?_
  refine gl_callV (q := 1553) dL_law_1550 rfl kv_L_115 rfl (c_mthrown hJ.2.1) (by decide) (by decide) hmL2 hmg2 rfl (bz_le rfl) hkc hns (fun r g3 hQ => ?_)
  obtain ⟨rfl, hg9⟩ := hQ
  have hg9 := hg9.symm
  subst hg9
  have hB := bz_B.rf (bz_W.one hJ.2.2.1)
  refine g_iload (q := 1555) dL_law_1553 rfl rfl ?_
  refine g_icmp_eq (q := 1558) (t := 1560) dL_law_1555 rfl (by decide) (fun _ => ?_) (fun c => absurd (hI) c)
  refine g_iload (q := 1562) dL_law_1560 rfl rfl ?_
  refine g_ifN_ne (q := 1565) (t := 1577) dL_law_1562 rfl (by decide) (by omega) (fun c_1562 => ?_) (fun c_1562 => ?_)
  · refine g_goto (q := 2172) dL_law_1577 (by decide) ?_
    refine g_lvs (lv1 := [(5, .int (nI i)), (4, .ref (o + 424)), (3, .ref (o + 423)), (2, .ref (o + 407)), (1, .ref o), (0, .ref b)]) ⟨rfl, rfl, rfl, rfl, rfl, rfl, trivial⟩ ?_
    exact kk _ _ _ _ _ _ _ hJ
  · refine g_aload_n (q := 1566) dL_law_1565 rfl rfl ?_
    refine g_iconst (q := 1567) (v := (nI 0)) dL_law_1566 rfl (by decide) ?_
    refine gb_laldN (q := 1568) (j := 0) (i := 0) dL_law_1567 rfl hB rfl rfl rfl (by omega) (by decide) ?_
    refine g_iload (q := 1570) dL_law_1568 rfl rfl ?_
    refine g_i2l (q := 1571) dL_law_1570 rfl ?_
    refine g_lcmp (q := 1572) dL_law_1571 rfl ?_
    refine g_if_eq (q := 1575) (t := 1577) dL_law_1572 rfl (by decide) (fun _ => ?_) (fun c => absurd (by rw [hU c_1562]; exact lw_lc _) c)
    refine g_goto (q := 2172) dL_law_1577 (by decide) ?_
    refine g_lvs (lv1 := [(5, .int (nI i)), (4, .ref (o + 424)), (3, .ref (o + 423)), (2, .ref (o + 407)), (1, .ref o), (0, .ref b)]) ⟨rfl, rfl, rfl, rfl, rfl, rfl, trivial⟩ ?_
    exact kk _ _ _ _ _ _ _ hJ
set_option maxRecDepth 20000 in
set_option maxHeartbeats 1000000 in
theorem lb_25 {l : Launch} {E : bz_E} {z0 : Nat} {s0 : State} {b N : Nat} {xs : Nat → Int32} {sz k n : Nat} {L : List Nat} {g : Nat → va_E} {o i : Nat} {A : WA} {I : Nat → Int32} {B : Nat → Nat → Int32} {U : Nat → Int64} {V : Nat → UInt64} (hl : l.stackTraces = false) (hX : va_X b N xs s0 s0.heap) (hbl : b < s0.heap.size) (hN : N ≤ 3072) (hi : i + 6 ≤ N) (hJ : lw_J E L g o A I B U V) (hkc : k + 1 ≤ 601024) (hns : n + 6 ≤ 7293034) (kk : ∀ (g1 : Nat → va_E) (z1 : Nat) (A1 : WA) (I1 : Nat → Int32) (B1 : Nat → Nat → Int32) (U1 : Nat → Int64) (V1 : Nat → UInt64), lw_J E L g1 o A1 I1 B1 U1 V1 → bz_G l E mL_law room_1 [] z0 (lw_F s0 b) z1 (k + 1) (n + 6) L g1 2172 [(5, .int (nI i)), (4, .ref (o + 424)), (3, .ref (o + 423)), (2, .ref (o + 407)), (1, .ref o), (0, .ref b)] []) : bz_G l E mL_law room_1 [] z0 (lw_F s0 b) sz k n L g 1580 [(5, .int (nI i)), (4, .ref (o + 424)), (3, .ref (o + 423)), (2, .ref (o + 407)), (1, .ref o), (0, .ref b)] [] := by
  refine g_aload_n (q := 1581) dL_law_1580 rfl rfl ?_
  refine g_aload_n (q := 1582) dL_law_1581 rfl rfl ?_
  refine g_iload (q := 1584) dL_law_1582 rfl rfl ?_
  refine g_iconst (q := 1585) (v := (nI 1)) dL_law_1584 rfl (by decide) ?_
  refine g_iaddN (q := 1586) dL_law_1585 rfl ?_
  refine gz_ld (q := 1587) hX hbl hN (by omega) dL_law_1586 rfl ?_
  refine g_aload_n (q := 1588) dL_law_1587 rfl rfl ?_
  refine gl_callH (q := 1591) dL_law_1588 rfl kh_L_199 rfl (pr_run hl hJ (xs (i + 1))) (by decide) (by decide) rfl (bz_le rfl) hkc hns (fun r g1 z1 hz1 hQ => ?_)
  obtain ⟨k9, hk9, rfl, ⟨hmL, fsm, hmg⟩, d2, hd2, hK2⟩ := hQ
  refine g_istore (q := 1593) dL_law_1591 rfl (by decide) rfl ?_
  refine g_aload_n (q := 1594) dL_law_1593 rfl rfl ?_
  refine g_aload_n (q := 1595) dL_law_1594 rfl rfl ?_
  refine g_iload (q := 1597) dL_law_1595 rfl rfl ?_
  refine g_iconst (q := 1598) (v := (nI 1)) dL_law_1597 rfl (by decide) ?_
  refine g_iaddN (q := 1599) dL_law_1598 rfl ?_
  refine gz_ld (q := 1600) hX hbl hN (by omega) dL_law_1599 rfl ?_
  refine gl_callV (q := 1603) dL_law_1600 rfl kv_L_201 rfl hK2 (by show d2 < 2048; omega) (by show 64 * d2 + 64 ≤ 84000; omega) hmL hmg rfl (bz_le rfl) hkc hns (fun r g2 hQ => ?_)
  obtain ⟨v, rfl, A1, I1, B1, U1, V1, hJ, hI, hU⟩ := hQ
  obtain ⟨hmL2, fsm2, hmg2⟩ := lw_m9 hJ.2.1
  refine g_istore (q := 1605) dL_law_1603 rfl (by decide) rfl ?_
  refine g_aload_n (q := 1606) dL_law_1605 rfl rfl ?_
  refine gl_callV (q := 1609) dL_law_1606 rfl kv_L_115 rfl (c_mthrown hJ.2.1) (by decide) (by decide) hmL2 hmg2 rfl (bz_le rfl) hkc hns (fun r g3 hQ => ?_)
  obtain ⟨rfl, hg9⟩ := hQ
  have hg9 := hg9.symm
  subst hg9
  have hB := bz_B.rf (bz_W.one hJ.2.2.1)
  refine g_iload (q := 1611) dL_law_1609 rfl rfl ?_
  refine g_icmp_eq (q := 1614) (t := 1616) dL_law_1611 rfl (by decide) (fun _ => ?_) (fun c => absurd (hI) c)
  refine g_iload (q := 1618) dL_law_1616 rfl rfl ?_
  refine g_ifN_ne (q := 1621) (t := 1633) dL_law_1618 rfl (by decide) (by omega) (fun c_1618 => ?_) (fun c_1618 => ?_)
  · refine g_goto (q := 2172) dL_law_1633 (by decide) ?_
    refine g_lvs (lv1 := [(5, .int (nI i)), (4, .ref (o + 424)), (3, .ref (o + 423)), (2, .ref (o + 407)), (1, .ref o), (0, .ref b)]) ⟨rfl, rfl, rfl, rfl, rfl, rfl, trivial⟩ ?_
    exact kk _ _ _ _ _ _ _ hJ
  · refine g_aload_n (q := 1622) dL_law_1621 rfl rfl ?_
    refine g_iconst (q := 1623) (v := (nI 0)) dL_law_1622 rfl (by decide) ?_
    refine gb_laldN (q := 1624) (j := 0) (i := 0) dL_law_1623 rfl hB rfl rfl rfl (by omega) (by decide) ?_
    refine g_iload (q := 1626) dL_law_1624 rfl rfl ?_
    refine g_i2l (q := 1627) dL_law_1626 rfl ?_
    refine g_lcmp (q := 1628) dL_law_1627 rfl ?_
    refine g_if_eq (q := 1631) (t := 1633) dL_law_1628 rfl (by decide) (fun _ => ?_) (fun c => absurd (by rw [hU c_1618]; exact lw_lc _) c)
    refine g_goto (q := 2172) dL_law_1633 (by decide) ?_
    refine g_lvs (lv1 := [(5, .int (nI i)), (4, .ref (o + 424)), (3, .ref (o + 423)), (2, .ref (o + 407)), (1, .ref o), (0, .ref b)]) ⟨rfl, rfl, rfl, rfl, rfl, rfl, trivial⟩ ?_
    exact kk _ _ _ _ _ _ _ hJ
set_option maxRecDepth 20000 in
set_option maxHeartbeats 1000000 in
theorem lb_26 {l : Launch} {E : bz_E} {z0 : Nat} {s0 : State} {b N : Nat} {xs : Nat → Int32} {sz k n : Nat} {L : List Nat} {g : Nat → va_E} {o i : Nat} {A : WA} {I : Nat → Int32} {B : Nat → Nat → Int32} {U : Nat → Int64} {V : Nat → UInt64} (hl : l.stackTraces = false) (hX : va_X b N xs s0 s0.heap) (hbl : b < s0.heap.size) (hN : N ≤ 3072) (hi : i + 6 ≤ N) (hJ : lw_J E L g o A I B U V) (hkc : k + 1 ≤ 601024) (hns : n + 6 ≤ 7293034) (kk : ∀ (g1 : Nat → va_E) (z1 : Nat) (A1 : WA) (I1 : Nat → Int32) (B1 : Nat → Nat → Int32) (U1 : Nat → Int64) (V1 : Nat → UInt64), lw_J E L g1 o A1 I1 B1 U1 V1 → bz_G l E mL_law room_1 [] z0 (lw_F s0 b) z1 (k + 1) (n + 6) L g1 2172 [(5, .int (nI i)), (4, .ref (o + 424)), (3, .ref (o + 423)), (2, .ref (o + 407)), (1, .ref o), (0, .ref b)] []) : bz_G l E mL_law room_1 [] z0 (lw_F s0 b) sz k n L g 1636 [(5, .int (nI i)), (4, .ref (o + 424)), (3, .ref (o + 423)), (2, .ref (o + 407)), (1, .ref o), (0, .ref b)] [] := by
  by_cases hz : xs (i + 5) = 0
  ·
    refine g_aload_n (q := 1637) dL_law_1636 rfl rfl ?_
    refine g_aload_n (q := 1638) dL_law_1637 rfl rfl ?_
    refine g_iload (q := 1640) dL_law_1638 rfl rfl ?_
    refine g_iconst (q := 1641) (v := (nI 1)) dL_law_1640 rfl (by decide) ?_
    refine g_iaddN (q := 1642) dL_law_1641 rfl ?_
    refine gz_ld (q := 1643) hX hbl hN (by omega) dL_law_1642 rfl ?_
    refine g_aload_n (q := 1644) dL_law_1643 rfl rfl ?_
    refine g_iload (q := 1646) dL_law_1644 rfl rfl ?_
    refine g_iconst (q := 1647) (v := (nI 2)) dL_law_1646 rfl (by decide) ?_
    refine g_iaddN (q := 1648) dL_law_1647 rfl ?_
    refine gz_ld (q := 1649) hX hbl hN (by omega) dL_law_1648 rfl ?_
    refine g_aload_n (q := 1650) dL_law_1649 rfl rfl ?_
    refine g_iload (q := 1652) dL_law_1650 rfl rfl ?_
    refine g_iconst (q := 1653) (v := (nI 3)) dL_law_1652 rfl (by decide) ?_
    refine g_iaddN (q := 1654) dL_law_1653 rfl ?_
    refine gz_ld (q := 1655) hX hbl hN (by omega) dL_law_1654 rfl ?_
    refine g_aload_n (q := 1656) dL_law_1655 rfl rfl ?_
    refine g_iload (q := 1658) dL_law_1656 rfl rfl ?_
    refine g_iconst (q := 1659) (v := (nI 4)) dL_law_1658 rfl (by decide) ?_
    refine g_iaddN (q := 1660) dL_law_1659 rfl ?_
    refine gz_ld (q := 1661) hX hbl hN (by omega) dL_law_1660 rfl ?_
    refine g_aload_n (q := 1662) dL_law_1661 rfl rfl ?_
    refine g_iload (q := 1664) dL_law_1662 rfl rfl ?_
    refine g_iconst (q := 1665) (v := (nI 5)) dL_law_1664 rfl (by decide) ?_
    refine g_iaddN (q := 1666) dL_law_1665 rfl ?_
    refine gz_ld (q := 1667) hX hbl hN (by omega) dL_law_1666 rfl ?_
    refine g_if_eq (q := 1670) (t := 1674) dL_law_1667 rfl (by decide) (fun _ => ?_) (fun c => absurd (hz) c)
    refine g_iconst (q := 1675) (v := (nI 0)) dL_law_1674 rfl (by decide) ?_
    refine g_eqi (v := tB false) (by decide) ?_
    refine g_aload_n (q := 1676) dL_law_1675 rfl rfl ?_
    refine gl_callH (q := 1679) dL_law_1676 rfl kh_L_202 rfl (pr_post hl hJ (xs (i + 1)) (xs (i + 2)) (xs (i + 3)) (xs (i + 4)) false) (by decide) (by decide) rfl (bz_le rfl) hkc hns (fun r g1 z1 hz1 hQ => ?_)
    obtain ⟨k9, hk9, rfl, ⟨hmL, fsm, hmg⟩, d2, hd2, hK2⟩ := hQ
    refine g_istore (q := 1681) dL_law_1679 rfl (by decide) rfl ?_
    refine g_aload_n (q := 1682) dL_law_1681 rfl rfl ?_
    refine g_aload_n (q := 1683) dL_law_1682 rfl rfl ?_
    refine g_iload (q := 1685) dL_law_1683 rfl rfl ?_
    refine g_iconst (q := 1686) (v := (nI 1)) dL_law_1685 rfl (by decide) ?_
    refine g_iaddN (q := 1687) dL_law_1686 rfl ?_
    refine gz_ld (q := 1688) hX hbl hN (by omega) dL_law_1687 rfl ?_
    refine g_aload_n (q := 1689) dL_law_1688 rfl rfl ?_
    refine g_iload (q := 1691) dL_law_1689 rfl rfl ?_
    refine g_iconst (q := 1692) (v := (nI 2)) dL_law_1691 rfl (by decide) ?_
    refine g_iaddN (q := 1693) dL_law_1692 rfl ?_
    refine gz_ld (q := 1694) hX hbl hN (by omega) dL_law_1693 rfl ?_
    refine g_aload_n (q := 1695) dL_law_1694 rfl rfl ?_
    refine g_iload (q := 1697) dL_law_1695 rfl rfl ?_
    refine g_iconst (q := 1698) (v := (nI 3)) dL_law_1697 rfl (by decide) ?_
    refine g_iaddN (q := 1699) dL_law_1698 rfl ?_
    refine gz_ld (q := 1700) hX hbl hN (by omega) dL_law_1699 rfl ?_
    refine g_aload_n (q := 1701) dL_law_1700 rfl rfl ?_
    refine g_iload (q := 1703) dL_law_1701 rfl rfl ?_
    refine g_iconst (q := 1704) (v := (nI 4)) dL_law_1703 rfl (by decide) ?_
    refine g_iaddN (q := 1705) dL_law_1704 rfl ?_
    refine gz_ld (q := 1706) hX hbl hN (by omega) dL_law_1705 rfl ?_
    refine g_aload_n (q := 1707) dL_law_1706 rfl rfl ?_
    refine g_iload (q := 1709) dL_law_1707 rfl rfl ?_
    refine g_iconst (q := 1710) (v := (nI 5)) dL_law_1709 rfl (by decide) ?_
    refine g_iaddN (q := 1711) dL_law_1710 rfl ?_
    refine gz_ld (q := 1712) hX hbl hN (by omega) dL_law_1711 rfl ?_
    refine g_if_eq (q := 1715) (t := 1719) dL_law_1712 rfl (by decide) (fun _ => ?_) (fun c => absurd (hz) c)
    refine g_iconst (q := 1720) (v := (nI 0)) dL_law_1719 rfl (by decide) ?_
    refine g_eqi (v := tB false) (by decide) ?_
    refine gl_callV (q := 1723) dL_law_1720 rfl kv_L_205 rfl hK2 (by show d2 < 2048; omega) (by show 64 * d2 + 64 ≤ 84000; omega) hmL hmg rfl (bz_le rfl) hkc hns (fun r g2 hQ => ?_)
    obtain ⟨v, rfl, A1, I1, B1, U1, V1, hJ, hI, hU⟩ := hQ
    obtain ⟨hmL2, fsm2, hmg2⟩ := lw_m9 hJ.2.1
    refine g_istore (q := 1725) dL_law_1723 rfl (by decide) rfl ?_
    refine g_aload_n (q := 1726) dL_law_1725 rfl rfl ?_
    refine gl_callV (q := 1729) dL_law_1726 rfl kv_L_115 rfl (c_mthrown hJ.2.1) (by decide) (by decide) hmL2 hmg2 rfl (bz_le rfl) hkc hns (fun r g3 hQ => ?_)
    obtain ⟨rfl, hg9⟩ := hQ
    have hg9 := hg9.symm
    subst hg9
    have hB := bz_B.rf (bz_W.one hJ.2.2.1)
    refine g_iload (q := 1731) dL_law_1729 rfl rfl ?_
    refine g_icmp_eq (q := 1734) (t := 1736) dL_law_1731 rfl (by decide) (fun _ => ?_) (fun c => absurd (hI) c)
    refine g_iload (q := 1738) dL_law_1736 rfl rfl ?_
    refine g_ifN_ne (q := 1741) (t := 1753) dL_law_1738 rfl (by decide) (by omega) (fun c_1738 => ?_) (fun c_1738 => ?_)
    · refine g_goto (q := 2172) dL_law_1753 (by decide) ?_
      refine g_lvs (lv1 := [(5, .int (nI i)), (4, .ref (o + 424)), (3, .ref (o + 423)), (2, .ref (o + 407)), (1, .ref o), (0, .ref b)]) ⟨rfl, rfl, rfl, rfl, rfl, rfl, trivial⟩ ?_
      exact kk _ _ _ _ _ _ _ hJ
    · refine g_aload_n (q := 1742) dL_law_1741 rfl rfl ?_
      refine g_iconst (q := 1743) (v := (nI 0)) dL_law_1742 rfl (by decide) ?_
      refine gb_laldN (q := 1744) (j := 0) (i := 0) dL_law_1743 rfl hB rfl rfl rfl (by omega) (by decide) ?_
      refine g_iload (q := 1746) dL_law_1744 rfl rfl ?_
      refine g_i2l (q := 1747) dL_law_1746 rfl ?_
      refine g_lcmp (q := 1748) dL_law_1747 rfl ?_
      refine g_if_eq (q := 1751) (t := 1753) dL_law_1748 rfl (by decide) (fun _ => ?_) (fun c => absurd (by rw [hU c_1738]; exact lw_lc _) c)
      refine g_goto (q := 2172) dL_law_1753 (by decide) ?_
      refine g_lvs (lv1 := [(5, .int (nI i)), (4, .ref (o + 424)), (3, .ref (o + 423)), (2, .ref (o + 407)), (1, .ref o), (0, .ref b)]) ⟨rfl, rfl, rfl, rfl, rfl, rfl, trivial⟩ ?_
      exact kk _ _ _ _ _ _ _ hJ
  ·
    refine g_aload_n (q := 1637) dL_law_1636 rfl rfl ?_
    refine g_aload_n (q := 1638) dL_law_1637 rfl rfl ?_
    refine g_iload (q := 1640) dL_law_1638 rfl rfl ?_
    refine g_iconst (q := 1641) (v := (nI 1)) dL_law_1640 rfl (by decide) ?_
    refine g_iaddN (q := 1642) dL_law_1641 rfl ?_
    refine gz_ld (q := 1643) hX hbl hN (by omega) dL_law_1642 rfl ?_
    refine g_aload_n (q := 1644) dL_law_1643 rfl rfl ?_
    refine g_iload (q := 1646) dL_law_1644 rfl rfl ?_
    refine g_iconst (q := 1647) (v := (nI 2)) dL_law_1646 rfl (by decide) ?_
    refine g_iaddN (q := 1648) dL_law_1647 rfl ?_
    refine gz_ld (q := 1649) hX hbl hN (by omega) dL_law_1648 rfl ?_
    refine g_aload_n (q := 1650) dL_law_1649 rfl rfl ?_
    refine g_iload (q := 1652) dL_law_1650 rfl rfl ?_
    refine g_iconst (q := 1653) (v := (nI 3)) dL_law_1652 rfl (by decide) ?_
    refine g_iaddN (q := 1654) dL_law_1653 rfl ?_
    refine gz_ld (q := 1655) hX hbl hN (by omega) dL_law_1654 rfl ?_
    refine g_aload_n (q := 1656) dL_law_1655 rfl rfl ?_
    refine g_iload (q := 1658) dL_law_1656 rfl rfl ?_
    refine g_iconst (q := 1659) (v := (nI 4)) dL_law_1658 rfl (by decide) ?_
    refine g_iaddN (q := 1660) dL_law_1659 rfl ?_
    refine gz_ld (q := 1661) hX hbl hN (by omega) dL_law_1660 rfl ?_
    refine g_aload_n (q := 1662) dL_law_1661 rfl rfl ?_
    refine g_iload (q := 1664) dL_law_1662 rfl rfl ?_
    refine g_iconst (q := 1665) (v := (nI 5)) dL_law_1664 rfl (by decide) ?_
    refine g_iaddN (q := 1666) dL_law_1665 rfl ?_
    refine gz_ld (q := 1667) hX hbl hN (by omega) dL_law_1666 rfl ?_
    refine g_if_eq (q := 1670) (t := 1674) dL_law_1667 rfl (by decide) (fun c => absurd c (hz)) (fun _ => ?_)
    refine g_iconst (q := 1671) (v := (nI 1)) dL_law_1670 rfl (by decide) ?_
    refine g_eqi (v := tB true) (by decide) ?_
    refine g_goto (q := 1675) dL_law_1671 (by decide) ?_
    refine g_aload_n (q := 1676) dL_law_1675 rfl rfl ?_
    refine gl_callH (q := 1679) dL_law_1676 rfl kh_L_202 rfl (pr_post hl hJ (xs (i + 1)) (xs (i + 2)) (xs (i + 3)) (xs (i + 4)) true) (by decide) (by decide) rfl (bz_le rfl) hkc hns (fun r g1 z1 hz1 hQ => ?_)
    obtain ⟨k9, hk9, rfl, ⟨hmL, fsm, hmg⟩, d2, hd2, hK2⟩ := hQ
    refine g_istore (q := 1681) dL_law_1679 rfl (by decide) rfl ?_
    refine g_aload_n (q := 1682) dL_law_1681 rfl rfl ?_
    refine g_aload_n (q := 1683) dL_law_1682 rfl rfl ?_
    refine g_iload (q := 1685) dL_law_1683 rfl rfl ?_
    refine g_iconst (q := 1686) (v := (nI 1)) dL_law_1685 rfl (by decide) ?_
    refine g_iaddN (q := 1687) dL_law_1686 rfl ?_
    refine gz_ld (q := 1688) hX hbl hN (by omega) dL_law_1687 rfl ?_
    refine g_aload_n (q := 1689) dL_law_1688 rfl rfl ?_
    refine g_iload (q := 1691) dL_law_1689 rfl rfl ?_
    refine g_iconst (q := 1692) (v := (nI 2)) dL_law_1691 rfl (by decide) ?_
    refine g_iaddN (q := 1693) dL_law_1692 rfl ?_
    refine gz_ld (q := 1694) hX hbl hN (by omega) dL_law_1693 rfl ?_
    refine g_aload_n (q := 1695) dL_law_1694 rfl rfl ?_
    refine g_iload (q := 1697) dL_law_1695 rfl rfl ?_
    refine g_iconst (q := 1698) (v := (nI 3)) dL_law_1697 rfl (by decide) ?_
    refine g_iaddN (q := 1699) dL_law_1698 rfl ?_
    refine gz_ld (q := 1700) hX hbl hN (by omega) dL_law_1699 rfl ?_
    refine g_aload_n (q := 1701) dL_law_1700 rfl rfl ?_
    refine g_iload (q := 1703) dL_law_1701 rfl rfl ?_
    refine g_iconst (q := 1704) (v := (nI 4)) dL_law_1703 rfl (by decide) ?_
    refine g_iaddN (q := 1705) dL_law_1704 rfl ?_
    refine gz_ld (q := 1706) hX hbl hN (by omega) dL_law_1705 rfl ?_
    refine g_aload_n (q := 1707) dL_law_1706 rfl rfl ?_
    refine g_iload (q := 1709) dL_law_1707 rfl rfl ?_
    refine g_iconst (q := 1710) (v := (nI 5)) dL_law_1709 rfl (by decide) ?_
    refine g_iaddN (q := 1711) dL_law_1710 rfl ?_
    refine gz_ld (q := 1712) hX hbl hN (by omega) dL_law_1711 rfl ?_
    refine g_if_eq (q := 1715) (t := 1719) dL_law_1712 rfl (by decide) (fun c => absurd c (hz)) (fun _ => ?_)
    refine g_iconst (q := 1716) (v := (nI 1)) dL_law_1715 rfl (by decide) ?_
    refine g_eqi (v := tB true) (by decide) ?_
    refine g_goto (q := 1720) dL_law_1716 (by decide) ?_
    refine gl_callV (q := 1723) dL_law_1720 rfl kv_L_205 rfl hK2 (by show d2 < 2048; omega) (by show 64 * d2 + 64 ≤ 84000; omega) hmL hmg rfl (bz_le rfl) hkc hns (fun r g2 hQ => ?_)
    obtain ⟨v, rfl, A1, I1, B1, U1, V1, hJ, hI, hU⟩ := hQ
    obtain ⟨hmL2, fsm2, hmg2⟩ := lw_m9 hJ.2.1
    refine g_istore (q := 1725) dL_law_1723 rfl (by decide) rfl ?_
    refine g_aload_n (q := 1726) dL_law_1725 rfl rfl ?_
    refine gl_callV (q := 1729) dL_law_1726 rfl kv_L_115 rfl (c_mthrown hJ.2.1) (by decide) (by decide) hmL2 hmg2 rfl (bz_le rfl) hkc hns (fun r g3 hQ => ?_)
    obtain ⟨rfl, hg9⟩ := hQ
    have hg9 := hg9.symm
    subst hg9
    have hB := bz_B.rf (bz_W.one hJ.2.2.1)
    refine g_iload (q := 1731) dL_law_1729 rfl rfl ?_
    refine g_icmp_eq (q := 1734) (t := 1736) dL_law_1731 rfl (by decide) (fun _ => ?_) (fun c => absurd (hI) c)
    refine g_iload (q := 1738) dL_law_1736 rfl rfl ?_
    refine g_ifN_ne (q := 1741) (t := 1753) dL_law_1738 rfl (by decide) (by omega) (fun c_1738 => ?_) (fun c_1738 => ?_)
    · refine g_goto (q := 2172) dL_law_1753 (by decide) ?_
      refine g_lvs (lv1 := [(5, .int (nI i)), (4, .ref (o + 424)), (3, .ref (o + 423)), (2, .ref (o + 407)), (1, .ref o), (0, .ref b)]) ⟨rfl, rfl, rfl, rfl, rfl, rfl, trivial⟩ ?_
      exact kk _ _ _ _ _ _ _ hJ
    · refine g_aload_n (q := 1742) dL_law_1741 rfl rfl ?_
      refine g_iconst (q := 1743) (v := (nI 0)) dL_law_1742 rfl (by decide) ?_
      refine gb_laldN (q := 1744) (j := 0) (i := 0) dL_law_1743 rfl hB rfl rfl rfl (by omega) (by decide) ?_
      refine g_iload (q := 1746) dL_law_1744 rfl rfl ?_
      refine g_i2l (q := 1747) dL_law_1746 rfl ?_
      refine g_lcmp (q := 1748) dL_law_1747 rfl ?_
      refine g_if_eq (q := 1751) (t := 1753) dL_law_1748 rfl (by decide) (fun _ => ?_) (fun c => absurd (by rw [hU c_1738]; exact lw_lc _) c)
      refine g_goto (q := 2172) dL_law_1753 (by decide) ?_
      refine g_lvs (lv1 := [(5, .int (nI i)), (4, .ref (o + 424)), (3, .ref (o + 423)), (2, .ref (o + 407)), (1, .ref o), (0, .ref b)]) ⟨rfl, rfl, rfl, rfl, rfl, rfl, trivial⟩ ?_
      exact kk _ _ _ _ _ _ _ hJ
set_option maxRecDepth 20000 in
set_option maxHeartbeats 1000000 in
theorem lb_27 {l : Launch} {E : bz_E} {z0 : Nat} {s0 : State} {b N : Nat} {xs : Nat → Int32} {sz k n : Nat} {L : List Nat} {g : Nat → va_E} {o i : Nat} {A : WA} {I : Nat → Int32} {B : Nat → Nat → Int32} {U : Nat → Int64} {V : Nat → UInt64} (hl : l.stackTraces = false) (hX : va_X b N xs s0 s0.heap) (hbl : b < s0.heap.size) (hN : N ≤ 3072) (hi : i + 6 ≤ N) (hJ : lw_J E L g o A I B U V) (hkc : k + 1 ≤ 601024) (hns : n + 6 ≤ 7293034) (kk : ∀ (g1 : Nat → va_E) (z1 : Nat) (A1 : WA) (I1 : Nat → Int32) (B1 : Nat → Nat → Int32) (U1 : Nat → Int64) (V1 : Nat → UInt64), lw_J E L g1 o A1 I1 B1 U1 V1 → bz_G l E mL_law room_1 [] z0 (lw_F s0 b) z1 (k + 1) (n + 6) L g1 2172 [(5, .int (nI i)), (4, .ref (o + 424)), (3, .ref (o + 423)), (2, .ref (o + 407)), (1, .ref o), (0, .ref b)] []) : bz_G l E mL_law room_1 [] z0 (lw_F s0 b) sz k n L g 1756 [(5, .int (nI i)), (4, .ref (o + 424)), (3, .ref (o + 423)), (2, .ref (o + 407)), (1, .ref o), (0, .ref b)] [] := by
  by_cases hz : xs (i + 4) = 0
  ·
    refine g_aload_n (q := 1757) dL_law_1756 rfl rfl ?_
    refine g_aload_n (q := 1758) dL_law_1757 rfl rfl ?_
    refine g_iload (q := 1760) dL_law_1758 rfl rfl ?_
    refine g_iconst (q := 1761) (v := (nI 1)) dL_law_1760 rfl (by decide) ?_
    refine g_iaddN (q := 1762) dL_law_1761 rfl ?_
    refine gz_ld (q := 1763) hX hbl hN (by omega) dL_law_1762 rfl ?_
    refine g_aload_n (q := 1764) dL_law_1763 rfl rfl ?_
    refine g_iload (q := 1766) dL_law_1764 rfl rfl ?_
    refine g_iconst (q := 1767) (v := (nI 2)) dL_law_1766 rfl (by decide) ?_
    refine g_iaddN (q := 1768) dL_law_1767 rfl ?_
    refine gz_ld (q := 1769) hX hbl hN (by omega) dL_law_1768 rfl ?_
    refine g_aload_n (q := 1770) dL_law_1769 rfl rfl ?_
    refine g_iload (q := 1772) dL_law_1770 rfl rfl ?_
    refine g_iconst (q := 1773) (v := (nI 3)) dL_law_1772 rfl (by decide) ?_
    refine g_iaddN (q := 1774) dL_law_1773 rfl ?_
    refine gz_ld (q := 1775) hX hbl hN (by omega) dL_law_1774 rfl ?_
    refine g_aload_n (q := 1776) dL_law_1775 rfl rfl ?_
    refine g_iload (q := 1778) dL_law_1776 rfl rfl ?_
    refine g_iconst (q := 1779) (v := (nI 4)) dL_law_1778 rfl (by decide) ?_
    refine g_iaddN (q := 1780) dL_law_1779 rfl ?_
    refine gz_ld (q := 1781) hX hbl hN (by omega) dL_law_1780 rfl ?_
    refine g_if_eq (q := 1784) (t := 1788) dL_law_1781 rfl (by decide) (fun _ => ?_) (fun c => absurd (hz) c)
    refine g_iconst (q := 1789) (v := (nI 0)) dL_law_1788 rfl (by decide) ?_
    refine g_eqi (v := tB false) (by decide) ?_
    refine g_aload_n (q := 1790) dL_law_1789 rfl rfl ?_
    refine gl_callH (q := 1793) dL_law_1790 rfl kh_L_206 rfl (pr_read hl hJ (xs (i + 1)) (xs (i + 2)) (xs (i + 3)) false) (by decide) (by decide) rfl (bz_le rfl) hkc hns (fun r g1 z1 hz1 hQ => ?_)
    obtain ⟨k9, hk9, rfl, ⟨hmL, fsm, hmg⟩, d2, hd2, hK2⟩ := hQ
    refine g_istore (q := 1795) dL_law_1793 rfl (by decide) rfl ?_
    refine g_aload_n (q := 1796) dL_law_1795 rfl rfl ?_
    refine g_aload_n (q := 1797) dL_law_1796 rfl rfl ?_
    refine g_iload (q := 1799) dL_law_1797 rfl rfl ?_
    refine g_iconst (q := 1800) (v := (nI 1)) dL_law_1799 rfl (by decide) ?_
    refine g_iaddN (q := 1801) dL_law_1800 rfl ?_
    refine gz_ld (q := 1802) hX hbl hN (by omega) dL_law_1801 rfl ?_
    refine g_aload_n (q := 1803) dL_law_1802 rfl rfl ?_
    refine g_iload (q := 1805) dL_law_1803 rfl rfl ?_
    refine g_iconst (q := 1806) (v := (nI 2)) dL_law_1805 rfl (by decide) ?_
    refine g_iaddN (q := 1807) dL_law_1806 rfl ?_
    refine gz_ld (q := 1808) hX hbl hN (by omega) dL_law_1807 rfl ?_
    refine g_aload_n (q := 1809) dL_law_1808 rfl rfl ?_
    refine g_iload (q := 1811) dL_law_1809 rfl rfl ?_
    refine g_iconst (q := 1812) (v := (nI 3)) dL_law_1811 rfl (by decide) ?_
    refine g_iaddN (q := 1813) dL_law_1812 rfl ?_
    refine gz_ld (q := 1814) hX hbl hN (by omega) dL_law_1813 rfl ?_
    refine g_aload_n (q := 1815) dL_law_1814 rfl rfl ?_
    refine g_iload (q := 1817) dL_law_1815 rfl rfl ?_
    refine g_iconst (q := 1818) (v := (nI 4)) dL_law_1817 rfl (by decide) ?_
    refine g_iaddN (q := 1819) dL_law_1818 rfl ?_
    refine gz_ld (q := 1820) hX hbl hN (by omega) dL_law_1819 rfl ?_
    refine g_if_eq (q := 1823) (t := 1827) dL_law_1820 rfl (by decide) (fun _ => ?_) (fun c => absurd (hz) c)
    refine g_iconst (q := 1828) (v := (nI 0)) dL_law_1827 rfl (by decide) ?_
    refine g_eqi (v := tB false) (by decide) ?_
    refine gl_callV (q := 1831) dL_law_1828 rfl kv_L_209 rfl hK2 (by show d2 < 2048; omega) (by show 64 * d2 + 64 ≤ 84000; omega) hmL hmg rfl (bz_le rfl) hkc hns (fun r g2 hQ => ?_)
    obtain ⟨v, rfl, A1, I1, B1, U1, V1, hJ, hI, hU⟩ := hQ
    obtain ⟨hmL2, fsm2, hmg2⟩ := lw_m9 hJ.2.1
    refine g_istore (q := 1833) dL_law_1831 rfl (by decide) rfl ?_
    refine g_aload_n (q := 1834) dL_law_1833 rfl rfl ?_
    refine gl_callV (q := 1837) dL_law_1834 rfl kv_L_115 rfl (c_mthrown hJ.2.1) (by decide) (by decide) hmL2 hmg2 rfl (bz_le rfl) hkc hns (fun r g3 hQ => ?_)
    obtain ⟨rfl, hg9⟩ := hQ
    have hg9 := hg9.symm
    subst hg9
    have hB := bz_B.rf (bz_W.one hJ.2.2.1)
    refine g_iload (q := 1839) dL_law_1837 rfl rfl ?_
    refine g_icmp_eq (q := 1842) (t := 1844) dL_law_1839 rfl (by decide) (fun _ => ?_) (fun c => absurd (hI) c)
    refine g_iload (q := 1846) dL_law_1844 rfl rfl ?_
    refine g_ifN_ne (q := 1849) (t := 1861) dL_law_1846 rfl (by decide) (by omega) (fun c_1846 => ?_) (fun c_1846 => ?_)
    · refine g_goto (q := 2172) dL_law_1861 (by decide) ?_
      refine g_lvs (lv1 := [(5, .int (nI i)), (4, .ref (o + 424)), (3, .ref (o + 423)), (2, .ref (o + 407)), (1, .ref o), (0, .ref b)]) ⟨rfl, rfl, rfl, rfl, rfl, rfl, trivial⟩ ?_
      exact kk _ _ _ _ _ _ _ hJ
    · refine g_aload_n (q := 1850) dL_law_1849 rfl rfl ?_
      refine g_iconst (q := 1851) (v := (nI 0)) dL_law_1850 rfl (by decide) ?_
      refine gb_laldN (q := 1852) (j := 0) (i := 0) dL_law_1851 rfl hB rfl rfl rfl (by omega) (by decide) ?_
      refine g_iload (q := 1854) dL_law_1852 rfl rfl ?_
      refine g_i2l (q := 1855) dL_law_1854 rfl ?_
      refine g_lcmp (q := 1856) dL_law_1855 rfl ?_
      refine g_if_eq (q := 1859) (t := 1861) dL_law_1856 rfl (by decide) (fun _ => ?_) (fun c => absurd (by rw [hU c_1846]; exact lw_lc _) c)
      refine g_goto (q := 2172) dL_law_1861 (by decide) ?_
      refine g_lvs (lv1 := [(5, .int (nI i)), (4, .ref (o + 424)), (3, .ref (o + 423)), (2, .ref (o + 407)), (1, .ref o), (0, .ref b)]) ⟨rfl, rfl, rfl, rfl, rfl, rfl, trivial⟩ ?_
      exact kk _ _ _ _ _ _ _ hJ
  ·
    refine g_aload_n (q := 1757) dL_law_1756 rfl rfl ?_
    refine g_aload_n (q := 1758) dL_law_1757 rfl rfl ?_
    refine g_iload (q := 1760) dL_law_1758 rfl rfl ?_
    refine g_iconst (q := 1761) (v := (nI 1)) dL_law_1760 rfl (by decide) ?_
    refine g_iaddN (q := 1762) dL_law_1761 rfl ?_
    refine gz_ld (q := 1763) hX hbl hN (by omega) dL_law_1762 rfl ?_
    refine g_aload_n (q := 1764) dL_law_1763 rfl rfl ?_
    refine g_iload (q := 1766) dL_law_1764 rfl rfl ?_
    refine g_iconst (q := 1767) (v := (nI 2)) dL_law_1766 rfl (by decide) ?_
    refine g_iaddN (q := 1768) dL_law_1767 rfl ?_
    refine gz_ld (q := 1769) hX hbl hN (by omega) dL_law_1768 rfl ?_
    refine g_aload_n (q := 1770) dL_law_1769 rfl rfl ?_
    refine g_iload (q := 1772) dL_law_1770 rfl rfl ?_
    refine g_iconst (q := 1773) (v := (nI 3)) dL_law_1772 rfl (by decide) ?_
    refine g_iaddN (q := 1774) dL_law_1773 rfl ?_
    refine gz_ld (q := 1775) hX hbl hN (by omega) dL_law_1774 rfl ?_
    refine g_aload_n (q := 1776) dL_law_1775 rfl rfl ?_
    refine g_iload (q := 1778) dL_law_1776 rfl rfl ?_
    refine g_iconst (q := 1779) (v := (nI 4)) dL_law_1778 rfl (by decide) ?_
    refine g_iaddN (q := 1780) dL_law_1779 rfl ?_
    refine gz_ld (q := 1781) hX hbl hN (by omega) dL_law_1780 rfl ?_
    refine g_if_eq (q := 1784) (t := 1788) dL_law_1781 rfl (by decide) (fun c => absurd c (hz)) (fun _ => ?_)
    refine g_iconst (q := 1785) (v := (nI 1)) dL_law_1784 rfl (by decide) ?_
    refine g_eqi (v := tB true) (by decide) ?_
    refine g_goto (q := 1789) dL_law_1785 (by decide) ?_
    refine g_aload_n (q := 1790) dL_law_1789 rfl rfl ?_
    refine gl_callH (q := 1793) dL_law_1790 rfl kh_L_206 rfl (pr_read hl hJ (xs (i + 1)) (xs (i + 2)) (xs (i + 3)) true) (by decide) (by decide) rfl (bz_le rfl) hkc hns (fun r g1 z1 hz1 hQ => ?_)
    obtain ⟨k9, hk9, rfl, ⟨hmL, fsm, hmg⟩, d2, hd2, hK2⟩ := hQ
    refine g_istore (q := 1795) dL_law_1793 rfl (by decide) rfl ?_
    refine g_aload_n (q := 1796) dL_law_1795 rfl rfl ?_
    refine g_aload_n (q := 1797) dL_law_1796 rfl rfl ?_
    refine g_iload (q := 1799) dL_law_1797 rfl rfl ?_
    refine g_iconst (q := 1800) (v := (nI 1)) dL_law_1799 rfl (by decide) ?_
    refine g_iaddN (q := 1801) dL_law_1800 rfl ?_
    refine gz_ld (q := 1802) hX hbl hN (by omega) dL_law_1801 rfl ?_
    refine g_aload_n (q := 1803) dL_law_1802 rfl rfl ?_
    refine g_iload (q := 1805) dL_law_1803 rfl rfl ?_
    refine g_iconst (q := 1806) (v := (nI 2)) dL_law_1805 rfl (by decide) ?_
    refine g_iaddN (q := 1807) dL_law_1806 rfl ?_
    refine gz_ld (q := 1808) hX hbl hN (by omega) dL_law_1807 rfl ?_
    refine g_aload_n (q := 1809) dL_law_1808 rfl rfl ?_
    refine g_iload (q := 1811) dL_law_1809 rfl rfl ?_
    refine g_iconst (q := 1812) (v := (nI 3)) dL_law_1811 rfl (by decide) ?_
    refine g_iaddN (q := 1813) dL_law_1812 rfl ?_
    refine gz_ld (q := 1814) hX hbl hN (by omega) dL_law_1813 rfl ?_
    refine g_aload_n (q := 1815) dL_law_1814 rfl rfl ?_
    refine g_iload (q := 1817) dL_law_1815 rfl rfl ?_
    refine g_iconst (q := 1818) (v := (nI 4)) dL_law_1817 rfl (by decide) ?_
    refine g_iaddN (q := 1819) dL_law_1818 rfl ?_
    refine gz_ld (q := 1820) hX hbl hN (by omega) dL_law_1819 rfl ?_
    refine g_if_eq (q := 1823) (t := 1827) dL_law_1820 rfl (by decide) (fun c => absurd c (hz)) (fun _ => ?_)
    refine g_iconst (q := 1824) (v := (nI 1)) dL_law_1823 rfl (by decide) ?_
    refine g_eqi (v := tB true) (by decide) ?_
    refine g_goto (q := 1828) dL_law_1824 (by decide) ?_
    refine gl_callV (q := 1831) dL_law_1828 rfl kv_L_209 rfl hK2 (by show d2 < 2048; omega) (by show 64 * d2 + 64 ≤ 84000; omega) hmL hmg rfl (bz_le rfl) hkc hns (fun r g2 hQ => ?_)
    obtain ⟨v, rfl, A1, I1, B1, U1, V1, hJ, hI, hU⟩ := hQ
    obtain ⟨hmL2, fsm2, hmg2⟩ := lw_m9 hJ.2.1
    refine g_istore (q := 1833) dL_law_1831 rfl (by decide) rfl ?_
    refine g_aload_n (q := 1834) dL_law_1833 rfl rfl ?_
    refine gl_callV (q := 1837) dL_law_1834 rfl kv_L_115 rfl (c_mthrown hJ.2.1) (by decide) (by decide) hmL2 hmg2 rfl (bz_le rfl) hkc hns (fun r g3 hQ => ?_)
    obtain ⟨rfl, hg9⟩ := hQ
    have hg9 := hg9.symm
    subst hg9
    have hB := bz_B.rf (bz_W.one hJ.2.2.1)
    refine g_iload (q := 1839) dL_law_1837 rfl rfl ?_
    refine g_icmp_eq (q := 1842) (t := 1844) dL_law_1839 rfl (by decide) (fun _ => ?_) (fun c => absurd (hI) c)
    refine g_iload (q := 1846) dL_law_1844 rfl rfl ?_
    refine g_ifN_ne (q := 1849) (t := 1861) dL_law_1846 rfl (by decide) (by omega) (fun c_1846 => ?_) (fun c_1846 => ?_)
    · refine g_goto (q := 2172) dL_law_1861 (by decide) ?_
      refine g_lvs (lv1 := [(5, .int (nI i)), (4, .ref (o + 424)), (3, .ref (o + 423)), (2, .ref (o + 407)), (1, .ref o), (0, .ref b)]) ⟨rfl, rfl, rfl, rfl, rfl, rfl, trivial⟩ ?_
      exact kk _ _ _ _ _ _ _ hJ
    · refine g_aload_n (q := 1850) dL_law_1849 rfl rfl ?_
      refine g_iconst (q := 1851) (v := (nI 0)) dL_law_1850 rfl (by decide) ?_
      refine gb_laldN (q := 1852) (j := 0) (i := 0) dL_law_1851 rfl hB rfl rfl rfl (by omega) (by decide) ?_
      refine g_iload (q := 1854) dL_law_1852 rfl rfl ?_
      refine g_i2l (q := 1855) dL_law_1854 rfl ?_
      refine g_lcmp (q := 1856) dL_law_1855 rfl ?_
      refine g_if_eq (q := 1859) (t := 1861) dL_law_1856 rfl (by decide) (fun _ => ?_) (fun c => absurd (by rw [hU c_1846]; exact lw_lc _) c)
      refine g_goto (q := 2172) dL_law_1861 (by decide) ?_
      refine g_lvs (lv1 := [(5, .int (nI i)), (4, .ref (o + 424)), (3, .ref (o + 423)), (2, .ref (o + 407)), (1, .ref o), (0, .ref b)]) ⟨rfl, rfl, rfl, rfl, rfl, rfl, trivial⟩ ?_
      exact kk _ _ _ _ _ _ _ hJ
set_option maxRecDepth 20000 in
set_option maxHeartbeats 1000000 in
theorem lb_28 {l : Launch} {E : bz_E} {z0 : Nat} {s0 : State} {b N : Nat} {xs : Nat → Int32} {sz k n : Nat} {L : List Nat} {g : Nat → va_E} {o i : Nat} {A : WA} {I : Nat → Int32} {B : Nat → Nat → Int32} {U : Nat → Int64} {V : Nat → UInt64} (hl : l.stackTraces = false) (hX : va_X b N xs s0 s0.heap) (hbl : b < s0.heap.size) (hN : N ≤ 3072) (hi : i + 6 ≤ N) (hJ : lw_J E L g o A I B U V) (hkc : k + 1 ≤ 601024) (hns : n + 6 ≤ 7293034) (kk : ∀ (g1 : Nat → va_E) (z1 : Nat) (A1 : WA) (I1 : Nat → Int32) (B1 : Nat → Nat → Int32) (U1 : Nat → Int64) (V1 : Nat → UInt64), lw_J E L g1 o A1 I1 B1 U1 V1 → bz_G l E mL_law room_1 [] z0 (lw_F s0 b) z1 (k + 1) (n + 6) L g1 2172 [(5, .int (nI i)), (4, .ref (o + 424)), (3, .ref (o + 423)), (2, .ref (o + 407)), (1, .ref o), (0, .ref b)] []) : bz_G l E mL_law room_1 [] z0 (lw_F s0 b) sz k n L g 1864 [(5, .int (nI i)), (4, .ref (o + 424)), (3, .ref (o + 423)), (2, .ref (o + 407)), (1, .ref o), (0, .ref b)] [] := by
  by_cases hz : xs (i + 4) = 0
  ·
    refine g_aload_n (q := 1865) dL_law_1864 rfl rfl ?_
    refine g_aload_n (q := 1866) dL_law_1865 rfl rfl ?_
    refine g_iload (q := 1868) dL_law_1866 rfl rfl ?_
    refine g_iconst (q := 1869) (v := (nI 1)) dL_law_1868 rfl (by decide) ?_
    refine g_iaddN (q := 1870) dL_law_1869 rfl ?_
    refine gz_ld (q := 1871) hX hbl hN (by omega) dL_law_1870 rfl ?_
    refine g_aload_n (q := 1872) dL_law_1871 rfl rfl ?_
    refine g_iload (q := 1874) dL_law_1872 rfl rfl ?_
    refine g_iconst (q := 1875) (v := (nI 2)) dL_law_1874 rfl (by decide) ?_
    refine g_iaddN (q := 1876) dL_law_1875 rfl ?_
    refine gz_ld (q := 1877) hX hbl hN (by omega) dL_law_1876 rfl ?_
    refine g_aload_n (q := 1878) dL_law_1877 rfl rfl ?_
    refine g_iload (q := 1880) dL_law_1878 rfl rfl ?_
    refine g_iconst (q := 1881) (v := (nI 3)) dL_law_1880 rfl (by decide) ?_
    refine g_iaddN (q := 1882) dL_law_1881 rfl ?_
    refine gz_ld (q := 1883) hX hbl hN (by omega) dL_law_1882 rfl ?_
    refine g_aload_n (q := 1884) dL_law_1883 rfl rfl ?_
    refine g_iload (q := 1886) dL_law_1884 rfl rfl ?_
    refine g_iconst (q := 1887) (v := (nI 4)) dL_law_1886 rfl (by decide) ?_
    refine g_iaddN (q := 1888) dL_law_1887 rfl ?_
    refine gz_ld (q := 1889) hX hbl hN (by omega) dL_law_1888 rfl ?_
    refine g_if_eq (q := 1892) (t := 1896) dL_law_1889 rfl (by decide) (fun _ => ?_) (fun c => absurd (hz) c)
    refine g_iconst (q := 1897) (v := (nI 0)) dL_law_1896 rfl (by decide) ?_
    refine g_eqi (v := tB false) (by decide) ?_
    refine g_aload_n (q := 1898) dL_law_1897 rfl rfl ?_
    refine gl_callH (q := 1901) dL_law_1898 rfl kh_L_210 rfl (pr_configure hl hJ (xs (i + 1)) (xs (i + 2)) (xs (i + 3)) false) (by decide) (by decide) rfl (bz_le rfl) hkc hns (fun r g1 z1 hz1 hQ => ?_)
    obtain ⟨k9, hk9, rfl, ⟨hmL, fsm, hmg⟩, d2, hd2, hK2⟩ := hQ
    refine g_istore (q := 1903) dL_law_1901 rfl (by decide) rfl ?_
    refine g_aload_n (q := 1904) dL_law_1903 rfl rfl ?_
    refine g_aload_n (q := 1905) dL_law_1904 rfl rfl ?_
    refine g_iload (q := 1907) dL_law_1905 rfl rfl ?_
    refine g_iconst (q := 1908) (v := (nI 1)) dL_law_1907 rfl (by decide) ?_
    refine g_iaddN (q := 1909) dL_law_1908 rfl ?_
    refine gz_ld (q := 1910) hX hbl hN (by omega) dL_law_1909 rfl ?_
    refine g_aload_n (q := 1911) dL_law_1910 rfl rfl ?_
    refine g_iload (q := 1913) dL_law_1911 rfl rfl ?_
    refine g_iconst (q := 1914) (v := (nI 2)) dL_law_1913 rfl (by decide) ?_
    refine g_iaddN (q := 1915) dL_law_1914 rfl ?_
    refine gz_ld (q := 1916) hX hbl hN (by omega) dL_law_1915 rfl ?_
    refine g_aload_n (q := 1917) dL_law_1916 rfl rfl ?_
    refine g_iload (q := 1919) dL_law_1917 rfl rfl ?_
    refine g_iconst (q := 1920) (v := (nI 3)) dL_law_1919 rfl (by decide) ?_
    refine g_iaddN (q := 1921) dL_law_1920 rfl ?_
    refine gz_ld (q := 1922) hX hbl hN (by omega) dL_law_1921 rfl ?_
    refine g_aload_n (q := 1923) dL_law_1922 rfl rfl ?_
    refine g_iload (q := 1925) dL_law_1923 rfl rfl ?_
    refine g_iconst (q := 1926) (v := (nI 4)) dL_law_1925 rfl (by decide) ?_
    refine g_iaddN (q := 1927) dL_law_1926 rfl ?_
    refine gz_ld (q := 1928) hX hbl hN (by omega) dL_law_1927 rfl ?_
    refine g_if_eq (q := 1931) (t := 1935) dL_law_1928 rfl (by decide) (fun _ => ?_) (fun c => absurd (hz) c)
    refine g_iconst (q := 1936) (v := (nI 0)) dL_law_1935 rfl (by decide) ?_
    refine g_eqi (v := tB false) (by decide) ?_
    refine gl_callV (q := 1939) dL_law_1936 rfl kv_L_212 rfl hK2 (by show d2 < 2048; omega) (by show 64 * d2 + 64 ≤ 84000; omega) hmL hmg rfl (bz_le rfl) hkc hns (fun r g2 hQ => ?_)
    obtain ⟨v, rfl, A1, I1, B1, U1, V1, hJ, hI, hU⟩ := hQ
    obtain ⟨hmL2, fsm2, hmg2⟩ := lw_m9 hJ.2.1
    refine g_istore (q := 1941) dL_law_1939 rfl (by decide) rfl ?_
    refine g_aload_n (q := 1942) dL_law_1941 rfl rfl ?_
    refine gl_callV (q := 1945) dL_law_1942 rfl kv_L_115 rfl (c_mthrown hJ.2.1) (by decide) (by decide) hmL2 hmg2 rfl (bz_le rfl) hkc hns (fun r g3 hQ => ?_)
    obtain ⟨rfl, hg9⟩ := hQ
    have hg9 := hg9.symm
    subst hg9
    have hB := bz_B.rf (bz_W.one hJ.2.2.1)
    refine g_iload (q := 1947) dL_law_1945 rfl rfl ?_
    refine g_icmp_eq (q := 1950) (t := 1952) dL_law_1947 rfl (by decide) (fun _ => ?_) (fun c => absurd (hI) c)
    refine g_iload (q := 1954) dL_law_1952 rfl rfl ?_
    refine g_ifN_ne (q := 1957) (t := 1969) dL_law_1954 rfl (by decide) (by omega) (fun c_1954 => ?_) (fun c_1954 => ?_)
    · refine g_goto (q := 2172) dL_law_1969 (by decide) ?_
      refine g_lvs (lv1 := [(5, .int (nI i)), (4, .ref (o + 424)), (3, .ref (o + 423)), (2, .ref (o + 407)), (1, .ref o), (0, .ref b)]) ⟨rfl, rfl, rfl, rfl, rfl, rfl, trivial⟩ ?_
      exact kk _ _ _ _ _ _ _ hJ
    · refine g_aload_n (q := 1958) dL_law_1957 rfl rfl ?_
      refine g_iconst (q := 1959) (v := (nI 0)) dL_law_1958 rfl (by decide) ?_
      refine gb_laldN (q := 1960) (j := 0) (i := 0) dL_law_1959 rfl hB rfl rfl rfl (by omega) (by decide) ?_
      refine g_iload (q := 1962) dL_law_1960 rfl rfl ?_
      refine g_i2l (q := 1963) dL_law_1962 rfl ?_
      refine g_lcmp (q := 1964) dL_law_1963 rfl ?_
      refine g_if_eq (q := 1967) (t := 1969) dL_law_1964 rfl (by decide) (fun _ => ?_) (fun c => absurd (by rw [hU c_1954]; exact lw_lc _) c)
      refine g_goto (q := 2172) dL_law_1969 (by decide) ?_
      refine g_lvs (lv1 := [(5, .int (nI i)), (4, .ref (o + 424)), (3, .ref (o + 423)), (2, .ref (o + 407)), (1, .ref o), (0, .ref b)]) ⟨rfl, rfl, rfl, rfl, rfl, rfl, trivial⟩ ?_
      exact kk _ _ _ _ _ _ _ hJ
  ·
    refine g_aload_n (q := 1865) dL_law_1864 rfl rfl ?_
    refine g_aload_n (q := 1866) dL_law_1865 rfl rfl ?_
    refine g_iload (q := 1868) dL_law_1866 rfl rfl ?_
    refine g_iconst (q := 1869) (v := (nI 1)) dL_law_1868 rfl (by decide) ?_
    refine g_iaddN (q := 1870) dL_law_1869 rfl ?_
    refine gz_ld (q := 1871) hX hbl hN (by omega) dL_law_1870 rfl ?_
    refine g_aload_n (q := 1872) dL_law_1871 rfl rfl ?_
    refine g_iload (q := 1874) dL_law_1872 rfl rfl ?_
    refine g_iconst (q := 1875) (v := (nI 2)) dL_law_1874 rfl (by decide) ?_
    refine g_iaddN (q := 1876) dL_law_1875 rfl ?_
    refine gz_ld (q := 1877) hX hbl hN (by omega) dL_law_1876 rfl ?_
    refine g_aload_n (q := 1878) dL_law_1877 rfl rfl ?_
    refine g_iload (q := 1880) dL_law_1878 rfl rfl ?_
    refine g_iconst (q := 1881) (v := (nI 3)) dL_law_1880 rfl (by decide) ?_
    refine g_iaddN (q := 1882) dL_law_1881 rfl ?_
    refine gz_ld (q := 1883) hX hbl hN (by omega) dL_law_1882 rfl ?_
    refine g_aload_n (q := 1884) dL_law_1883 rfl rfl ?_
    refine g_iload (q := 1886) dL_law_1884 rfl rfl ?_
    refine g_iconst (q := 1887) (v := (nI 4)) dL_law_1886 rfl (by decide) ?_
    refine g_iaddN (q := 1888) dL_law_1887 rfl ?_
    refine gz_ld (q := 1889) hX hbl hN (by omega) dL_law_1888 rfl ?_
    refine g_if_eq (q := 1892) (t := 1896) dL_law_1889 rfl (by decide) (fun c => absurd c (hz)) (fun _ => ?_)
    refine g_iconst (q := 1893) (v := (nI 1)) dL_law_1892 rfl (by decide) ?_
    refine g_eqi (v := tB true) (by decide) ?_
    refine g_goto (q := 1897) dL_law_1893 (by decide) ?_
    refine g_aload_n (q := 1898) dL_law_1897 rfl rfl ?_
    refine gl_callH (q := 1901) dL_law_1898 rfl kh_L_210 rfl (pr_configure hl hJ (xs (i + 1)) (xs (i + 2)) (xs (i + 3)) true) (by decide) (by decide) rfl (bz_le rfl) hkc hns (fun r g1 z1 hz1 hQ => ?_)
    obtain ⟨k9, hk9, rfl, ⟨hmL, fsm, hmg⟩, d2, hd2, hK2⟩ := hQ
    refine g_istore (q := 1903) dL_law_1901 rfl (by decide) rfl ?_
    refine g_aload_n (q := 1904) dL_law_1903 rfl rfl ?_
    refine g_aload_n (q := 1905) dL_law_1904 rfl rfl ?_
    refine g_iload (q := 1907) dL_law_1905 rfl rfl ?_
    refine g_iconst (q := 1908) (v := (nI 1)) dL_law_1907 rfl (by decide) ?_
    refine g_iaddN (q := 1909) dL_law_1908 rfl ?_
    refine gz_ld (q := 1910) hX hbl hN (by omega) dL_law_1909 rfl ?_
    refine g_aload_n (q := 1911) dL_law_1910 rfl rfl ?_
    refine g_iload (q := 1913) dL_law_1911 rfl rfl ?_
    refine g_iconst (q := 1914) (v := (nI 2)) dL_law_1913 rfl (by decide) ?_
    refine g_iaddN (q := 1915) dL_law_1914 rfl ?_
    refine gz_ld (q := 1916) hX hbl hN (by omega) dL_law_1915 rfl ?_
    refine g_aload_n (q := 1917) dL_law_1916 rfl rfl ?_
    refine g_iload (q := 1919) dL_law_1917 rfl rfl ?_
    refine g_iconst (q := 1920) (v := (nI 3)) dL_law_1919 rfl (by decide) ?_
    refine g_iaddN (q := 1921) dL_law_1920 rfl ?_
    refine gz_ld (q := 1922) hX hbl hN (by omega) dL_law_1921 rfl ?_
    refine g_aload_n (q := 1923) dL_law_1922 rfl rfl ?_
    refine g_iload (q := 1925) dL_law_1923 rfl rfl ?_
    refine g_iconst (q := 1926) (v := (nI 4)) dL_law_1925 rfl (by decide) ?_
    refine g_iaddN (q := 1927) dL_law_1926 rfl ?_
    refine gz_ld (q := 1928) hX hbl hN (by omega) dL_law_1927 rfl ?_
    refine g_if_eq (q := 1931) (t := 1935) dL_law_1928 rfl (by decide) (fun c => absurd c (hz)) (fun _ => ?_)
    refine g_iconst (q := 1932) (v := (nI 1)) dL_law_1931 rfl (by decide) ?_
    refine g_eqi (v := tB true) (by decide) ?_
    refine g_goto (q := 1936) dL_law_1932 (by decide) ?_
    refine gl_callV (q := 1939) dL_law_1936 rfl kv_L_212 rfl hK2 (by show d2 < 2048; omega) (by show 64 * d2 + 64 ≤ 84000; omega) hmL hmg rfl (bz_le rfl) hkc hns (fun r g2 hQ => ?_)
    obtain ⟨v, rfl, A1, I1, B1, U1, V1, hJ, hI, hU⟩ := hQ
    obtain ⟨hmL2, fsm2, hmg2⟩ := lw_m9 hJ.2.1
    refine g_istore (q := 1941) dL_law_1939 rfl (by decide) rfl ?_
    refine g_aload_n (q := 1942) dL_law_1941 rfl rfl ?_
    refine gl_callV (q := 1945) dL_law_1942 rfl kv_L_115 rfl (c_mthrown hJ.2.1) (by decide) (by decide) hmL2 hmg2 rfl (bz_le rfl) hkc hns (fun r g3 hQ => ?_)
    obtain ⟨rfl, hg9⟩ := hQ
    have hg9 := hg9.symm
    subst hg9
    have hB := bz_B.rf (bz_W.one hJ.2.2.1)
    refine g_iload (q := 1947) dL_law_1945 rfl rfl ?_
    refine g_icmp_eq (q := 1950) (t := 1952) dL_law_1947 rfl (by decide) (fun _ => ?_) (fun c => absurd (hI) c)
    refine g_iload (q := 1954) dL_law_1952 rfl rfl ?_
    refine g_ifN_ne (q := 1957) (t := 1969) dL_law_1954 rfl (by decide) (by omega) (fun c_1954 => ?_) (fun c_1954 => ?_)
    · refine g_goto (q := 2172) dL_law_1969 (by decide) ?_
      refine g_lvs (lv1 := [(5, .int (nI i)), (4, .ref (o + 424)), (3, .ref (o + 423)), (2, .ref (o + 407)), (1, .ref o), (0, .ref b)]) ⟨rfl, rfl, rfl, rfl, rfl, rfl, trivial⟩ ?_
      exact kk _ _ _ _ _ _ _ hJ
    · refine g_aload_n (q := 1958) dL_law_1957 rfl rfl ?_
      refine g_iconst (q := 1959) (v := (nI 0)) dL_law_1958 rfl (by decide) ?_
      refine gb_laldN (q := 1960) (j := 0) (i := 0) dL_law_1959 rfl hB rfl rfl rfl (by omega) (by decide) ?_
      refine g_iload (q := 1962) dL_law_1960 rfl rfl ?_
      refine g_i2l (q := 1963) dL_law_1962 rfl ?_
      refine g_lcmp (q := 1964) dL_law_1963 rfl ?_
      refine g_if_eq (q := 1967) (t := 1969) dL_law_1964 rfl (by decide) (fun _ => ?_) (fun c => absurd (by rw [hU c_1954]; exact lw_lc _) c)
      refine g_goto (q := 2172) dL_law_1969 (by decide) ?_
      refine g_lvs (lv1 := [(5, .int (nI i)), (4, .ref (o + 424)), (3, .ref (o + 423)), (2, .ref (o + 407)), (1, .ref o), (0, .ref b)]) ⟨rfl, rfl, rfl, rfl, rfl, rfl, trivial⟩ ?_
      exact kk _ _ _ _ _ _ _ hJ
set_option maxRecDepth 20000 in
set_option maxHeartbeats 1000000 in
theorem lb_29 {l : Launch} {E : bz_E} {z0 : Nat} {s0 : State} {b N : Nat} {xs : Nat → Int32} {sz k n : Nat} {L : List Nat} {g : Nat → va_E} {o i : Nat} {A : WA} {I : Nat → Int32} {B : Nat → Nat → Int32} {U : Nat → Int64} {V : Nat → UInt64} (hl : l.stackTraces = false) (hX : va_X b N xs s0 s0.heap) (hbl : b < s0.heap.size) (hN : N ≤ 3072) (hi : i + 6 ≤ N) (hJ : lw_J E L g o A I B U V) (hkc : k + 1 ≤ 601024) (hns : n + 6 ≤ 7293034) (kk : ∀ (g1 : Nat → va_E) (z1 : Nat) (A1 : WA) (I1 : Nat → Int32) (B1 : Nat → Nat → Int32) (U1 : Nat → Int64) (V1 : Nat → UInt64), lw_J E L g1 o A1 I1 B1 U1 V1 → bz_G l E mL_law room_1 [] z0 (lw_F s0 b) z1 (k + 1) (n + 6) L g1 2172 [(5, .int (nI i)), (4, .ref (o + 424)), (3, .ref (o + 423)), (2, .ref (o + 407)), (1, .ref o), (0, .ref b)] []) : bz_G l E mL_law room_1 [] z0 (lw_F s0 b) sz k n L g 1972 [(5, .int (nI i)), (4, .ref (o + 424)), (3, .ref (o + 423)), (2, .ref (o + 407)), (1, .ref o), (0, .ref b)] [] := by
  refine g_aload_n (q := 1973) dL_law_1972 rfl rfl ?_
  refine g_aload_n (q := 1974) dL_law_1973 rfl rfl ?_
  refine g_iload (q := 1976) dL_law_1974 rfl rfl ?_
  refine g_iconst (q := 1977) (v := (nI 1)) dL_law_1976 rfl (by decide) ?_
  refine g_iaddN (q := 1978) dL_law_1977 rfl ?_
  refine gz_ld (q := 1979) hX hbl hN (by omega) dL_law_1978 rfl ?_
  refine g_aload_n (q := 1980) dL_law_1979 rfl rfl ?_
  refine g_iload (q := 1982) dL_law_1980 rfl rfl ?_
  refine g_iconst (q := 1983) (v := (nI 2)) dL_law_1982 rfl (by decide) ?_
  refine g_iaddN (q := 1984) dL_law_1983 rfl ?_
  refine gz_ld (q := 1985) hX hbl hN (by omega) dL_law_1984 rfl ?_
  refine g_aload_n (q := 1986) dL_law_1985 rfl rfl ?_
  refine gl_callH (q := 1989) dL_law_1986 rfl kh_L_213 rfl (pr_release hl hJ (xs (i + 1)) (xs (i + 2))) (by decide) (by decide) rfl (bz_le rfl) hkc hns (fun r g1 z1 hz1 hQ => ?_)
  obtain ⟨k9, hk9, rfl, ⟨hmL, fsm, hmg⟩, d2, hd2, hK2⟩ := hQ
  refine g_istore (q := 1991) dL_law_1989 rfl (by decide) rfl ?_
  refine g_aload_n (q := 1992) dL_law_1991 rfl rfl ?_
  refine g_aload_n (q := 1993) dL_law_1992 rfl rfl ?_
  refine g_iload (q := 1995) dL_law_1993 rfl rfl ?_
  refine g_iconst (q := 1996) (v := (nI 1)) dL_law_1995 rfl (by decide) ?_
  refine g_iaddN (q := 1997) dL_law_1996 rfl ?_
  refine gz_ld (q := 1998) hX hbl hN (by omega) dL_law_1997 rfl ?_
  refine g_aload_n (q := 1999) dL_law_1998 rfl rfl ?_
  refine g_iload (q := 2001) dL_law_1999 rfl rfl ?_
  refine g_iconst (q := 2002) (v := (nI 2)) dL_law_2001 rfl (by decide) ?_
  refine g_iaddN (q := 2003) dL_law_2002 rfl ?_
  refine gz_ld (q := 2004) hX hbl hN (by omega) dL_law_2003 rfl ?_
  refine gl_callV (q := 2007) dL_law_2004 rfl kv_L_215 rfl hK2 (by show d2 < 2048; omega) (by show 64 * d2 + 64 ≤ 84000; omega) hmL hmg rfl (bz_le rfl) hkc hns (fun r g2 hQ => ?_)
  obtain ⟨v, rfl, A1, I1, B1, U1, V1, hJ, hI, hU⟩ := hQ
  obtain ⟨hmL2, fsm2, hmg2⟩ := lw_m9 hJ.2.1
  refine g_istore (q := 2009) dL_law_2007 rfl (by decide) rfl ?_
  refine g_aload_n (q := 2010) dL_law_2009 rfl rfl ?_
  refine gl_callV (q := 2013) dL_law_2010 rfl kv_L_115 rfl (c_mthrown hJ.2.1) (by decide) (by decide) hmL2 hmg2 rfl (bz_le rfl) hkc hns (fun r g3 hQ => ?_)
  obtain ⟨rfl, hg9⟩ := hQ
  have hg9 := hg9.symm
  subst hg9
  have hB := bz_B.rf (bz_W.one hJ.2.2.1)
  refine g_iload (q := 2015) dL_law_2013 rfl rfl ?_
  refine g_icmp_eq (q := 2018) (t := 2020) dL_law_2015 rfl (by decide) (fun _ => ?_) (fun c => absurd (hI) c)
  refine g_iload (q := 2022) dL_law_2020 rfl rfl ?_
  refine g_ifN_ne (q := 2025) (t := 2037) dL_law_2022 rfl (by decide) (by omega) (fun c_2022 => ?_) (fun c_2022 => ?_)
  · refine g_goto (q := 2172) dL_law_2037 (by decide) ?_
    refine g_lvs (lv1 := [(5, .int (nI i)), (4, .ref (o + 424)), (3, .ref (o + 423)), (2, .ref (o + 407)), (1, .ref o), (0, .ref b)]) ⟨rfl, rfl, rfl, rfl, rfl, rfl, trivial⟩ ?_
    exact kk _ _ _ _ _ _ _ hJ
  · refine g_aload_n (q := 2026) dL_law_2025 rfl rfl ?_
    refine g_iconst (q := 2027) (v := (nI 0)) dL_law_2026 rfl (by decide) ?_
    refine gb_laldN (q := 2028) (j := 0) (i := 0) dL_law_2027 rfl hB rfl rfl rfl (by omega) (by decide) ?_
    refine g_iload (q := 2030) dL_law_2028 rfl rfl ?_
    refine g_i2l (q := 2031) dL_law_2030 rfl ?_
    refine g_lcmp (q := 2032) dL_law_2031 rfl ?_
    refine g_if_eq (q := 2035) (t := 2037) dL_law_2032 rfl (by decide) (fun _ => ?_) (fun c => absurd (by rw [hU c_2022]; exact lw_lc _) c)
    refine g_goto (q := 2172) dL_law_2037 (by decide) ?_
    refine g_lvs (lv1 := [(5, .int (nI i)), (4, .ref (o + 424)), (3, .ref (o + 423)), (2, .ref (o + 407)), (1, .ref o), (0, .ref b)]) ⟨rfl, rfl, rfl, rfl, rfl, rfl, trivial⟩ ?_
    exact kk _ _ _ _ _ _ _ hJ
set_option maxRecDepth 20000 in
set_option maxHeartbeats 1000000 in
theorem lb_30 {l : Launch} {E : bz_E} {z0 : Nat} {s0 : State} {b N : Nat} {xs : Nat → Int32} {sz k n : Nat} {L : List Nat} {g : Nat → va_E} {o i : Nat} {A : WA} {I : Nat → Int32} {B : Nat → Nat → Int32} {U : Nat → Int64} {V : Nat → UInt64} (hl : l.stackTraces = false) (hX : va_X b N xs s0 s0.heap) (hbl : b < s0.heap.size) (hN : N ≤ 3072) (hi : i + 6 ≤ N) (hJ : lw_J E L g o A I B U V) (hkc : k + 1 ≤ 601024) (hns : n + 6 ≤ 7293034) (kk : ∀ (g1 : Nat → va_E) (z1 : Nat) (A1 : WA) (I1 : Nat → Int32) (B1 : Nat → Nat → Int32) (U1 : Nat → Int64) (V1 : Nat → UInt64), lw_J E L g1 o A1 I1 B1 U1 V1 → bz_G l E mL_law room_1 [] z0 (lw_F s0 b) z1 (k + 1) (n + 6) L g1 2172 [(5, .int (nI i)), (4, .ref (o + 424)), (3, .ref (o + 423)), (2, .ref (o + 407)), (1, .ref o), (0, .ref b)] []) : bz_G l E mL_law room_1 [] z0 (lw_F s0 b) sz k n L g 2040 [(5, .int (nI i)), (4, .ref (o + 424)), (3, .ref (o + 423)), (2, .ref (o + 407)), (1, .ref o), (0, .ref b)] [] := by
  obtain ⟨d2, hd2, hK1⟩ := pn_undo hl hJ 
  obtain ⟨hoL, fso, hog⟩ := lw_m8 hJ.1
  refine g_widen (k1 := k + 1) (n1 := n + 6) (by omega) (by omega) ?_
  refine g_aload_n (q := 2041) dL_law_2040 rfl rfl ?_
  refine gl_callV (q := 2044) dL_law_2041 rfl kv_L_216 rfl hK1 (by show d2 < 2048; omega) (by show 64 * d2 + 64 ≤ 84000; omega) hoL hog rfl (bz_le rfl) hkc hns (fun r g1 hQ => ?_)
  obtain ⟨v, rfl, ⟨hmL, fsm, hmg⟩, d3, hd3, hK2⟩ := hQ
  refine g_aload_n (q := 2045) dL_law_2044 rfl rfl ?_
  refine gl_callV (q := 2048) dL_law_2045 rfl kv_L_219 rfl hK2 (by show d3 < 2048; omega) (by show 64 * d3 + 64 ≤ 84000; omega) hmL hmg rfl (bz_le rfl) hkc hns (fun r g2 hQ => ?_)
  obtain ⟨rfl, A1, I1, B1, U1, V1, hJ⟩ := hQ
  refine g_icmp_eq (q := 2051) (t := 2172) dL_law_2048 rfl (by decide) (fun _ => ?_) (fun c => absurd (rfl) c)
  refine g_lvs (lv1 := [(5, .int (nI i)), (4, .ref (o + 424)), (3, .ref (o + 423)), (2, .ref (o + 407)), (1, .ref o), (0, .ref b)]) ⟨rfl, rfl, rfl, rfl, rfl, rfl, trivial⟩ ?_
  exact kk _ _ _ _ _ _ _ hJ
set_option maxRecDepth 20000 in
set_option maxHeartbeats 1000000 in
theorem lb_31 {l : Launch} {E : bz_E} {z0 : Nat} {s0 : State} {b N : Nat} {xs : Nat → Int32} {sz k n : Nat} {L : List Nat} {g : Nat → va_E} {o i : Nat} {A : WA} {I : Nat → Int32} {B : Nat → Nat → Int32} {U : Nat → Int64} {V : Nat → UInt64} (hl : l.stackTraces = false) (hX : va_X b N xs s0 s0.heap) (hbl : b < s0.heap.size) (hN : N ≤ 3072) (hi : i + 6 ≤ N) (hJ : lw_J E L g o A I B U V) (hkc : k + 1 ≤ 601024) (hns : n + 6 ≤ 7293034) (kk : ∀ (g1 : Nat → va_E) (z1 : Nat) (A1 : WA) (I1 : Nat → Int32) (B1 : Nat → Nat → Int32) (U1 : Nat → Int64) (V1 : Nat → UInt64), lw_J E L g1 o A1 I1 B1 U1 V1 → bz_G l E mL_law room_1 [] z0 (lw_F s0 b) z1 (k + 1) (n + 6) L g1 2172 [(5, .int (nI i)), (4, .ref (o + 424)), (3, .ref (o + 423)), (2, .ref (o + 407)), (1, .ref o), (0, .ref b)] []) : bz_G l E mL_law room_1 [] z0 (lw_F s0 b) sz k n L g 2053 [(5, .int (nI i)), (4, .ref (o + 424)), (3, .ref (o + 423)), (2, .ref (o + 407)), (1, .ref o), (0, .ref b)] [] := by
  refine g_aload_n (q := 2054) dL_law_2053 rfl rfl ?_
  refine g_aload_n (q := 2055) dL_law_2054 rfl rfl ?_
  refine g_iload (q := 2057) dL_law_2055 rfl rfl ?_
  refine g_iconst (q := 2058) (v := (nI 1)) dL_law_2057 rfl (by decide) ?_
  refine g_iaddN (q := 2059) dL_law_2058 rfl ?_
  refine gz_ld (q := 2060) hX hbl hN (by omega) dL_law_2059 rfl ?_
  refine g_aload_n (q := 2061) dL_law_2060 rfl rfl ?_
  refine gl_callH (q := 2064) dL_law_2061 rfl kh_L_220 rfl (pr_saveSnapshot hl hJ (xs (i + 1))) (by decide) (by decide) rfl (bz_le rfl) hkc hns (fun r g1 z1 hz1 hQ => ?_)
  obtain ⟨k9, hk9, rfl, ⟨hmL, fsm, hmg⟩, d2, hd2, hK2⟩ := hQ
  refine g_istore (q := 2066) dL_law_2064 rfl (by decide) rfl ?_
  refine g_aload_n (q := 2067) dL_law_2066 rfl rfl ?_
  refine g_aload_n (q := 2068) dL_law_2067 rfl rfl ?_
  refine g_iload (q := 2070) dL_law_2068 rfl rfl ?_
  refine g_iconst (q := 2071) (v := (nI 1)) dL_law_2070 rfl (by decide) ?_
  refine g_iaddN (q := 2072) dL_law_2071 rfl ?_
  refine gz_ld (q := 2073) hX hbl hN (by omega) dL_law_2072 rfl ?_
  refine gl_callV (q := 2076) dL_law_2073 rfl kv_L_222 rfl hK2 (by show d2 < 2048; omega) (by show 64 * d2 + 64 ≤ 84000; omega) hmL hmg rfl (bz_le rfl) hkc hns (fun r g2 hQ => ?_)
  obtain ⟨v, rfl, A1, I1, B1, U1, V1, hJ, hI, hU⟩ := hQ
  obtain ⟨hmL2, fsm2, hmg2⟩ := lw_m9 hJ.2.1
  refine g_istore (q := 2078) dL_law_2076 rfl (by decide) rfl ?_
  refine g_aload_n (q := 2079) dL_law_2078 rfl rfl ?_
  refine gl_callV (q := 2082) dL_law_2079 rfl kv_L_115 rfl (c_mthrown hJ.2.1) (by decide) (by decide) hmL2 hmg2 rfl (bz_le rfl) hkc hns (fun r g3 hQ => ?_)
  obtain ⟨rfl, hg9⟩ := hQ
  have hg9 := hg9.symm
  subst hg9
  have hB := bz_B.rf (bz_W.one hJ.2.2.1)
  refine g_iload (q := 2084) dL_law_2082 rfl rfl ?_
  refine g_icmp_eq (q := 2087) (t := 2089) dL_law_2084 rfl (by decide) (fun _ => ?_) (fun c => absurd (hI) c)
  refine g_iload (q := 2091) dL_law_2089 rfl rfl ?_
  refine g_ifN_ne (q := 2094) (t := 2113) dL_law_2091 rfl (by decide) (by omega) (fun c_2091 => ?_) (fun c_2091 => ?_)
  · refine g_goto (q := 2172) dL_law_2113 (by decide) ?_
    refine g_lvs (lv1 := [(5, .int (nI i)), (4, .ref (o + 424)), (3, .ref (o + 423)), (2, .ref (o + 407)), (1, .ref o), (0, .ref b)]) ⟨rfl, rfl, rfl, rfl, rfl, rfl, trivial⟩ ?_
    exact kk _ _ _ _ _ _ _ hJ
  · refine g_aload_n (q := 2095) dL_law_2094 rfl rfl ?_
    refine g_iconst (q := 2096) (v := (nI 0)) dL_law_2095 rfl (by decide) ?_
    refine gb_laldN (q := 2097) (j := 0) (i := 0) dL_law_2096 rfl hB rfl rfl rfl (by omega) (by decide) ?_
    refine g_iload (q := 2099) dL_law_2097 rfl rfl ?_
    refine g_if_eq (q := 2102) (t := 2106) dL_law_2099 rfl (by decide) (fun c_2099 => ?_) (fun c_2099 => ?_)
    · refine g_lconst (q := 2107) (v := 0) dL_law_2106 rfl (by decide) ?_
      refine g_lcmp (q := 2108) dL_law_2107 rfl ?_
      refine g_if_eq (q := 2111) (t := 2113) dL_law_2108 rfl (by decide) (fun _ => ?_) (fun c => absurd (by rw [hU c_2091]; first | exact lw_z0 c_2099 | exact lw_z1 c_2099) c)
      refine g_goto (q := 2172) dL_law_2113 (by decide) ?_
      refine g_lvs (lv1 := [(5, .int (nI i)), (4, .ref (o + 424)), (3, .ref (o + 423)), (2, .ref (o + 407)), (1, .ref o), (0, .ref b)]) ⟨rfl, rfl, rfl, rfl, rfl, rfl, trivial⟩ ?_
      exact kk _ _ _ _ _ _ _ hJ
    · refine g_lconst (q := 2103) (v := 1) dL_law_2102 rfl (by decide) ?_
      refine g_goto (q := 2107) dL_law_2103 (by decide) ?_
      refine g_lcmp (q := 2108) dL_law_2107 rfl ?_
      refine g_if_eq (q := 2111) (t := 2113) dL_law_2108 rfl (by decide) (fun _ => ?_) (fun c => absurd (by rw [hU c_2091]; first | exact lw_z0 c_2099 | exact lw_z1 c_2099) c)
      refine g_goto (q := 2172) dL_law_2113 (by decide) ?_
      refine g_lvs (lv1 := [(5, .int (nI i)), (4, .ref (o + 424)), (3, .ref (o + 423)), (2, .ref (o + 407)), (1, .ref o), (0, .ref b)]) ⟨rfl, rfl, rfl, rfl, rfl, rfl, trivial⟩ ?_
      exact kk _ _ _ _ _ _ _ hJ
set_option maxRecDepth 20000 in
set_option maxHeartbeats 1000000 in
theorem lb_32 {l : Launch} {E : bz_E} {z0 : Nat} {s0 : State} {b N : Nat} {xs : Nat → Int32} {sz k n : Nat} {L : List Nat} {g : Nat → va_E} {o i : Nat} {A : WA} {I : Nat → Int32} {B : Nat → Nat → Int32} {U : Nat → Int64} {V : Nat → UInt64} (hl : l.stackTraces = false) (hX : va_X b N xs s0 s0.heap) (hbl : b < s0.heap.size) (hN : N ≤ 3072) (hi : i + 6 ≤ N) (hJ : lw_J E L g o A I B U V) (hkc : k + 1 ≤ 601024) (hns : n + 6 ≤ 7293034) (kk : ∀ (g1 : Nat → va_E) (z1 : Nat) (A1 : WA) (I1 : Nat → Int32) (B1 : Nat → Nat → Int32) (U1 : Nat → Int64) (V1 : Nat → UInt64), lw_J E L g1 o A1 I1 B1 U1 V1 → bz_G l E mL_law room_1 [] z0 (lw_F s0 b) z1 (k + 1) (n + 6) L g1 2172 [(5, .int (nI i)), (4, .ref (o + 424)), (3, .ref (o + 423)), (2, .ref (o + 407)), (1, .ref o), (0, .ref b)] []) : bz_G l E mL_law room_1 [] z0 (lw_F s0 b) sz k n L g 2116 [(5, .int (nI i)), (4, .ref (o + 424)), (3, .ref (o + 423)), (2, .ref (o + 407)), (1, .ref o), (0, .ref b)] [] := by
  refine g_aload_n (q := 2117) dL_law_2116 rfl rfl ?_
  refine g_aload_n (q := 2118) dL_law_2117 rfl rfl ?_
  refine g_iload (q := 2120) dL_law_2118 rfl rfl ?_
  refine g_iconst (q := 2121) (v := (nI 1)) dL_law_2120 rfl (by decide) ?_
  refine g_iaddN (q := 2122) dL_law_2121 rfl ?_
  refine gz_ld (q := 2123) hX hbl hN (by omega) dL_law_2122 rfl ?_
  refine g_aload_n (q := 2124) dL_law_2123 rfl rfl ?_
  refine gl_callH (q := 2127) dL_law_2124 rfl kh_L_223 rfl (pr_restoreSnapshot hl hJ (xs (i + 1))) (by decide) (by decide) rfl (bz_le rfl) hkc hns (fun r g1 z1 hz1 hQ => ?_)
  obtain ⟨k9, hk9, rfl, ⟨hmL, fsm, hmg⟩, d2, hd2, hK2⟩ := hQ
  refine g_istore (q := 2129) dL_law_2127 rfl (by decide) rfl ?_
  refine g_aload_n (q := 2130) dL_law_2129 rfl rfl ?_
  refine g_aload_n (q := 2131) dL_law_2130 rfl rfl ?_
  refine g_iload (q := 2133) dL_law_2131 rfl rfl ?_
  refine g_iconst (q := 2134) (v := (nI 1)) dL_law_2133 rfl (by decide) ?_
  refine g_iaddN (q := 2135) dL_law_2134 rfl ?_
  refine gz_ld (q := 2136) hX hbl hN (by omega) dL_law_2135 rfl ?_
  refine gl_callV (q := 2139) dL_law_2136 rfl kv_L_225 rfl hK2 (by show d2 < 2048; omega) (by show 64 * d2 + 64 ≤ 84000; omega) hmL hmg rfl (bz_le rfl) hkc hns (fun r g2 hQ => ?_)
  obtain ⟨v, rfl, A1, I1, B1, U1, V1, hJ, hI, hU⟩ := hQ
  obtain ⟨hmL2, fsm2, hmg2⟩ := lw_m9 hJ.2.1
  refine g_istore (q := 2141) dL_law_2139 rfl (by decide) rfl ?_
  refine g_aload_n (q := 2142) dL_law_2141 rfl rfl ?_
  refine gl_callV (q := 2145) dL_law_2142 rfl kv_L_115 rfl (c_mthrown hJ.2.1) (by decide) (by decide) hmL2 hmg2 rfl (bz_le rfl) hkc hns (fun r g3 hQ => ?_)
  obtain ⟨rfl, hg9⟩ := hQ
  have hg9 := hg9.symm
  subst hg9
  have hB := bz_B.rf (bz_W.one hJ.2.2.1)
  refine g_iload (q := 2147) dL_law_2145 rfl rfl ?_
  refine g_icmp_eq (q := 2150) (t := 2152) dL_law_2147 rfl (by decide) (fun _ => ?_) (fun c => absurd (hI) c)
  refine g_iload (q := 2154) dL_law_2152 rfl rfl ?_
  refine g_ifN_ne (q := 2157) (t := 2169) dL_law_2154 rfl (by decide) (by omega) (fun c_2154 => ?_) (fun c_2154 => ?_)
  · refine g_goto (q := 2172) dL_law_2169 (by decide) ?_
    refine g_lvs (lv1 := [(5, .int (nI i)), (4, .ref (o + 424)), (3, .ref (o + 423)), (2, .ref (o + 407)), (1, .ref o), (0, .ref b)]) ⟨rfl, rfl, rfl, rfl, rfl, rfl, trivial⟩ ?_
    exact kk _ _ _ _ _ _ _ hJ
  · refine g_aload_n (q := 2158) dL_law_2157 rfl rfl ?_
    refine g_iconst (q := 2159) (v := (nI 0)) dL_law_2158 rfl (by decide) ?_
    refine gb_laldN (q := 2160) (j := 0) (i := 0) dL_law_2159 rfl hB rfl rfl rfl (by omega) (by decide) ?_
    refine g_iload (q := 2162) dL_law_2160 rfl rfl ?_
    refine g_i2l (q := 2163) dL_law_2162 rfl ?_
    refine g_lcmp (q := 2164) dL_law_2163 rfl ?_
    refine g_if_eq (q := 2167) (t := 2169) dL_law_2164 rfl (by decide) (fun _ => ?_) (fun c => absurd (by rw [hU c_2154]; exact lw_lc _) c)
    refine g_goto (q := 2172) dL_law_2169 (by decide) ?_
    refine g_lvs (lv1 := [(5, .int (nI i)), (4, .ref (o + 424)), (3, .ref (o + 423)), (2, .ref (o + 407)), (1, .ref o), (0, .ref b)]) ⟨rfl, rfl, rfl, rfl, rfl, rfl, trivial⟩ ?_
    exact kk _ _ _ _ _ _ _ hJ
