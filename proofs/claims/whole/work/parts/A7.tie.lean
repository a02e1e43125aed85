/-! THE LAW: class and reference side by side -/
theorem bz_K.imp {l : Launch} {E : bz_E} {M : bz_M} {d : Nat} {av : List Value} {L : List Nat} {g : Nat → va_E} {Q Q1 : Option Value → (Nat → va_E) → Prop} (h : bz_K l E M d av L g Q) (hQ : ∀ r g1, Q r g1 → Q1 r g1) : bz_K l E M d av L g Q1 := by
  intro sz p e a1 a2 a3 s m args below hf happ hP hK
  obtain ⟨n, o, h1, h2, h3, ⟨r, g1, k1, k2, k3⟩, h5⟩ := h sz p e a1 a2 a3 s m args below hf happ hP hK
  exact ⟨n, o, h1, h2, h3, ⟨r, g1, k1, hQ r g1 k2, k3⟩, h5⟩
theorem bz_KH.imp {l : Launch} {E : bz_E} {M : bz_M} {t : bz_HT} {d : Nat} {av : List Value} {L : List Nat} {g : Nat → va_E} {Q Q1 : Option Value → (Nat → va_E) → Prop} (h : bz_KH l E M t d av L g Q) (hQ : ∀ r g1, Q r g1 → Q1 r g1) : bz_KH l E M t d av L g Q1 := by
  intro sz p e a1 a2 a3 s m args below hf happ hP hK
  obtain ⟨n, o, h1, h2, h3, ⟨r, g1, k1, k2, k3⟩, h5⟩ := h sz p e a1 a2 a3 s m args below hf happ hP hK
  exact ⟨n, o, h1, h2, h3, ⟨r, g1, k1, hQ r g1 k2, k3⟩, h5⟩
theorem w_in {E : bz_E} {o : Nat} {A : WA} {R : WR} (hk : w_ok E o A R) {b : Nat × List va_E} (hb : b ∈ w_bs E o A R) {i : Nat} (hi : i < b.2.length) : o ≤ b.1 + i ∧ b.1 + i < o + 407 := by
  have h := w_fr (g := fun _ => .inr (0, [])) (g1 := va_up (fun _ => .inr (0, [])) (b.1 + i) (.inr (1, []))) hk (fun a ha => by
    unfold va_up
    rw [if_neg (fun e => ha (b.1, b.2.length) (List.mem_map.mpr ⟨b, hb, rfl⟩) (by rw [e]; exact ⟨by omega, by show b.1 + i < b.1 + b.2.length; omega⟩))])
  by_cases c : o ≤ b.1 + i ∧ b.1 + i < o + 407
  · exact c
  · have := h (b.1 + i) (fun r hr => by rw [List.mem_singleton.mp hr]; exact c)
    unfold va_up at this
    rw [if_pos rfl] at this
    cases this
theorem w_X.keep {E : bz_E} {L : List Nat} {g g1 : Nat → va_E} {o : Nat} {A : WA} (hX : w_X E L g o A) (h : ∀ x, o ≤ x → x < o + 407 → g1 x = g x) : w_X E L g1 o A := by
  obtain ⟨R, hW, hk⟩ := hX
  refine ⟨R, ⟨fun b hb i e he => ?_, hW.2⟩, hk⟩
  have hi := w_in hk hb (List.getElem?_eq_some_iff.mp he).1
  refine ⟨(hW.1 b hb i e he).1, ?_⟩
  rw [h _ hi.1 hi.2]
  exact (hW.1 b hb i e he).2
theorem lw_kH {L : List Nat} {g g1 : Nat → va_E} {x r n : Nat} {es : List va_E} (h : bz_H L g x es) (hS : bz_S g1 g [(r, n)]) (hd : x + es.length ≤ r ∨ r + n ≤ x) : bz_H L g1 x es := by
  intro i e he
  have hi := (List.getElem?_eq_some_iff.mp he).1
  refine ⟨(h i e he).1, ?_⟩
  rw [hS (x + i) (fun q hq => by rw [List.mem_singleton.mp hq]; show ¬ (r ≤ x + i ∧ x + i < r + n); omega)]
  exact (h i e he).2
theorem lw_kX {E : bz_E} {L : List Nat} {g g1 : Nat → va_E} {o r n : Nat} {A : WA} (h : w_X E L g o A) (hS : bz_S g1 g [(r, n)]) (hd : o + 407 ≤ r) : w_X E L g1 o A :=
  h.keep (fun x h1 h2 => hS x (fun q hq => by rw [List.mem_singleton.mp hq]; show ¬ (r ≤ x ∧ x < r + n); omega))
/-- what holds of every situation -/
def lw_si (D : Pl) (σ : Si) : Prop := s_all D σ ∧ s_fb σ ∧ σ.1 ≤ 9999
/-- class and reference hold the same -/
def lw_tie (A : WA) (I : Nat → Int32) (B : Nat → Nat → Int32) : Prop :=
  d_ok A.D ∧ m_pl B A.D ∧ m_st (B 1) A.s ∧ lw_si A.D A.s ∧ m_un (B 13) A.hs ∧ I 27 = nI A.hs.length ∧ (∀ τ ∈ A.hs, lw_si A.D τ) ∧ I 10 = nI A.n ∧ (∀ i, i < 600 → B 9 i = s8 (A.b i)) ∧ I 17 = A.er ∧ ∀ s, s < 2 → B 15 s = tB (w_sv A s) ∧ ∀ τ, w_sn A s = some τ → m_st (fun j => B 14 (2075 * s + j)) τ ∧ lw_si A.D τ
def lw_J (E : bz_E) (L : List Nat) (g : Nat → va_E) (o : Nat) (A : WA) (I : Nat → Int32) (B : Nat → Nat → Int32) (U : Nat → Int64) (V : Nat → UInt64) : Prop :=
  w_X E L g o A ∧ bz_H L g (o + 407) (b_Mod E (o + 407) I B) ∧ bz_H L g (o + 423) [eJ E U] ∧ bz_H L g (o + 424) [eD E V] ∧ lw_tie A I B
/-- where the reference is -/
def lw_m (L : List Nat) (g : Nat → va_E) (o ci : Nat) : Prop := o ∈ L ∧ ∃ fs : List Value, g o = .inr (ci, fs)
theorem lw_m9 {E : bz_E} {L : List Nat} {g : Nat → va_E} {o : Nat} {I : Nat → Int32} {B : Nat → Nat → Int32} (h : bz_H L g o (b_Mod E o I B)) : lw_m L g o 9 := ⟨(h 0 _ rfl).1, _, (h 0 _ rfl).2⟩
theorem lw_m8 {E : bz_E} {L : List Nat} {g : Nat → va_E} {o : Nat} {A : WA} (h : w_X E L g o A) : lw_m L g o 8 := by
  obtain ⟨R, hW, -⟩ := h
  have := hW.at (j := 0) rfl
  exact ⟨(this 0 _ rfl).1, _, (this 0 _ rfl).2⟩
/-- a helper's call, then the reference's -/
def lw_PH (l : Launch) (E : bz_E) (L : List Nat) (o : Nat) (g : Nat → va_E) (MH : bz_M) (t : bz_HT) (MR : bz_M) (avH avR : List Value) (cv : Int32 → Int64) : Prop :=
  bz_KH l E MH t 12 avH L g (fun r g1 => ∃ k : Nat, k ≤ 3 ∧ r = some (.int (nI k)) ∧ lw_m L g1 (o + 407) 9 ∧ ∃ d2 : Nat, d2 < 30 ∧ bz_K l E MR d2 avR L g1 (fun r2 g2 => ∃ v : Int32, r2 = some (.int v) ∧ ∃ A I B U V, lw_J E L g2 o A I B U V ∧ I 0 = nI k ∧ (k = 0 → U 0 = cv v)))
def lw_PN (l : Launch) (E : bz_E) (L : List Nat) (o : Nat) (g : Nat → va_E) (MX MR : bz_M) (avX avR : List Value) : Prop :=
  ∃ d2 : Nat, d2 < 30 ∧ bz_K l E MX d2 avX L g (fun r g1 => ∃ v : Int32, r = some (.int v) ∧ lw_m L g1 (o + 407) 9 ∧ ∃ d3 : Nat, d3 < 30 ∧ bz_K l E MR d3 avR L g1 (fun r2 g2 => r2 = some (.int v) ∧ ∃ A I B U V, lw_J E L g2 o A I B U V))
/-- what the reference answers and leaves -/
def lw_R (l : Launch) (E : bz_E) (L : List Nat) (o : Nat) (MR : bz_M) (avR : List Value) (I : Nat → Int32) (B : Nat → Nat → Int32) (P : Option Value → Prop) (k : Nat) (A : WA) : Prop :=
  ∃ d3 : Nat, d3 < 30 ∧ ∀ g1 : Nat → va_E, bz_H L g1 (o + 407) (b_Mod E (o + 407) I B) → bz_K l E MR d3 avR L g1 (fun r g2 => P r ∧ ∃ I9 B9, bz_B L g1 g2 [(o + 407, b_Mod E (o + 407) I9 B9)] ∧ I9 0 = nI k ∧ lw_tie A I9 B9)
/-- the class answers v and is in A1, and there the reference answers too -/
def lw_C (l : Launch) (E : bz_E) (L : List Nat) (o : Nat) (g : Nat → va_E) (MX : bz_M) (d2 : Nat) (avX : List Value) (F : Int32 → WA → Prop) : Prop :=
  bz_K l E MX d2 avX L g (fun r g1 => ∃ v : Int32, r = some (.int v) ∧ ∃ A1 : WA, w_P E L g o A1 g1 ∧ F v A1)
theorem lw_C.pure {l : Launch} {E : bz_E} {L : List Nat} {o : Nat} {g : Nat → va_E} {MX : bz_M} {d2 : Nat} {avX : List Value} {v : Int32} {F : Int32 → WA → Prop} {A : WA} (h : bz_K l E MX d2 avX L g (fun r g1 => r = some (.int v) ∧ g1 = g)) (hX : w_X E L g o A) (hF : F v A) : lw_C l E L o g MX d2 avX F :=
  h.imp (fun r g1 h => by
    obtain ⟨h1, rfl⟩ := h
    exact ⟨v, h1, A, ⟨fun _ _ => rfl, hX⟩, hF⟩)
theorem lw_C.keep {l : Launch} {E : bz_E} {L : List Nat} {o : Nat} {g : Nat → va_E} {MX : bz_M} {d2 : Nat} {avX : List Value} {v : Int32} {F : Int32 → WA → Prop} {X : Si → WA} {K : Si → Prop} (h : bz_K l E MX d2 avX L g (fun r g1 => r = some (.int v) ∧ ∃ τ : Si, K τ ∧ w_P E L g o (X τ) g1)) (hF : ∀ τ, K τ → F v (X τ)) : lw_C l E L o g MX d2 avX F :=
  h.imp (fun r g1 h => by
    obtain ⟨h1, τ, h2, h3⟩ := h
    exact ⟨v, h1, _, h3, hF τ h2⟩)
section PR
variable {l : Launch} {E : bz_E} {L : List Nat} {o : Nat} {g : Nat → va_E} {A : WA} {I : Nat → Int32} {B : Nat → Nat → Int32} {U : Nat → Int64} {V : Nat → UInt64}
/-- behind the class's call -/
def lw_Q1 (E : bz_E) (L : List Nat) (o : Nat) (I : Nat → Int32) (B : Nat → Nat → Int32) (V : Nat → UInt64) (F : WA → Prop) (g1 : Nat → va_E) : Prop := ∃ A1 : WA, w_X E L g1 o A1 ∧ bz_H L g1 (o + 407) (b_Mod E (o + 407) I B) ∧ bz_H L g1 (o + 424) [eD E V] ∧ F A1
theorem lw_beh {g1 : Nat → va_E} {A1 : WA} {F : WA → Prop} (hJ : lw_J E L g o A I B U V) (hP : w_P E L g o A1 g1) (hF : F A1) : bz_H L g1 (o + 423) [eJ E U] ∧ lw_Q1 E L o I B V F g1 := by
  obtain ⟨h1, h2, h3, h4, h5⟩ := hJ
  exact ⟨lw_kH h3 hP.1 (Or.inr (by omega)), A1, hP.2, lw_kH h2 hP.1 (Or.inr (by omega)), lw_kH h4 hP.1 (Or.inr (by omega)), hF⟩
theorem lw_K1 {MX : bz_M} {d2 : Nat} {avX : List Value} {F : Int32 → WA → Prop} (hJ : lw_J E L g o A I B U V) (hc : lw_C l E L o g MX d2 avX F) : bz_K l E MX d2 avX L g (fun r g1 => ∃ v1 : Int32, r = some (.int v1) ∧ bz_H L g1 (o + 423) [eJ E U] ∧ lw_Q1 E L o I B V (F v1) g1) :=
  hc.imp (fun r g1 h => by
    obtain ⟨v, h1, A1, h2, h3⟩ := h
    obtain ⟨k1, k2⟩ := lw_beh hJ h2 h3
    exact ⟨v, h1, k1, k2⟩)
abbrev lw_RF (l : Launch) (E : bz_E) (L : List Nat) (o : Nat) (MR : bz_M) (avR : List Value) (I : Nat → Int32) (B : Nat → Nat → Int32) (v : Int32) (A : WA) : Prop := lw_R l E L o MR avR I B (fun r => r = some (.int v)) 0 A
theorem lw_K2 {MH MR : bz_M} {t : bz_HT} {avH avR : List Value} {cv : Int32 → Int64} (h : bz_KH l E MH t 12 avH L g (fun r g1 => r = some (.int (nI 0)) ∧ ∃ (v1 : Int32) (g9 : Nat → va_E), lw_Q1 E L o I B V (lw_RF l E L o MR avR I B v1) g9 ∧ bz_B L g9 g1 [(o + 423, [eJ E (vp_updL U 0 (cv v1))])])) : lw_PH l E L o g MH t MR avH avR cv :=
  h.imp (fun r g1 hh => by
    obtain ⟨rfl, v1, g9, ⟨A1, h1, h2, h3, d3, hd, h4⟩, h5⟩ := hh
    have hS : bz_S g1 g9 [(o + 423, 1)] := h5.2
    have hm := lw_kH h2 hS (Or.inl (Nat.le_refl _))
    refine ⟨0, by decide, rfl, lw_m9 hm, d3, hd, (h4 g1 hm).imp (fun r2 g2 hr => ?_)⟩
    obtain ⟨rfl, I9, B9, k1, k2, k3⟩ := hr
    have hS2 : bz_S g2 g1 [(o + 407, 16)] := k1.2
    exact ⟨v1, rfl, A1, I9, B9, vp_updL U 0 (cv v1), V, ⟨lw_kX (lw_kX h1 hS (by omega)) hS2 (Nat.le_refl _), k1.1.at (j := 0) rfl, lw_kH (h5.1.at (j := 0) rfl) hS2 (Or.inr (by omega)), lw_kH (lw_kH h3 hS (Or.inr (by omega))) hS2 (Or.inr (by omega)), k3⟩, k2, fun _ => by unfold vp_updL; rw [if_pos rfl]⟩)
theorem lw_KX {MH MR : bz_M} {t : bz_HT} {avH avR : List Value} {cv : Int32 → Int64} {k : Nat} (hJ : lw_J E L g o A I B U V) (hk0 : k ≠ 0) (hk3 : k ≤ 3) (h : bz_KH l E MH t 12 avH L g (fun r g1 => r = some (.int (nI k)) ∧ g1 = g)) (hr : lw_R l E L o MR avR I B (fun r => ∃ v : Int32, r = some (.int v)) k A) : lw_PH l E L o g MH t MR avH avR cv :=
  h.imp (fun r g1 hh => by
    obtain ⟨rfl, rfl⟩ := hh
    obtain ⟨h1, h2, h3, h4, h5⟩ := hJ
    obtain ⟨d3, hd, hr⟩ := hr
    refine ⟨k, hk3, rfl, lw_m9 h2, d3, hd, (hr g1 h2).imp (fun r2 g2 hr => ?_)⟩
    obtain ⟨⟨v, rfl⟩, I9, B9, k1, k2, k3⟩ := hr
    have hS2 : bz_S g2 g1 [(o + 407, 16)] := k1.2
    exact ⟨v, rfl, A, I9, B9, U, V, ⟨lw_kX h1 hS2 (Nat.le_refl _), k1.1.at (j := 0) rfl, lw_kH h3 hS2 (Or.inr (by omega)), lw_kH h4 hS2 (Or.inr (by omega)), k3⟩, k2, fun h => absurd h hk0⟩)
theorem lw_KN {MX MR : bz_M} {avX avR : List Value} {d2 : Nat} (hJ : lw_J E L g o A I B U V) (hd2 : d2 < 30) (hc : lw_C l E L o g MX d2 avX (lw_RF l E L o MR avR I B)) : lw_PN l E L o g MX MR avX avR :=
  ⟨d2, hd2, hc.imp (fun r g1 hh => by
    obtain ⟨v, h1, A1, hP, d3, hd, h4⟩ := hh
    obtain ⟨-, j2, j3, j4, -⟩ := hJ
    have hm := lw_kH j2 hP.1 (Or.inr (Nat.le_refl _))
    refine ⟨v, h1, lw_m9 hm, d3, hd, (h4 g1 hm).imp (fun r2 g2 hr => ?_)⟩
    obtain ⟨rfl, I9, B9, k1, k2, k3⟩ := hr
    have hS2 : bz_S g2 g1 [(o + 407, 16)] := k1.2
    exact ⟨rfl, A1, I9, B9, U, V, lw_kX hP.2 hS2 (Nat.le_refl _), k1.1.at (j := 0) rfl, lw_kH (lw_kH j3 hP.1 (Or.inr (by omega))) hS2 (Or.inr (by omega)), lw_kH (lw_kH j4 hP.1 (Or.inr (by omega))) hS2 (Or.inr (by omega)), k3⟩)⟩
end PR
/-- the reference leaves all but its mark -/
theorem lw_tie.mark {A : WA} {I : Nat → Int32} {B : Nat → Nat → Int32} (h : lw_tie A I B) (v : Int32) : lw_tie A (va_up I 0 v) B := h
theorem lw_R.same {l : Launch} {E : bz_E} {L : List Nat} {o : Nat} {MR : bz_M} {avR : List Value} {I : Nat → Int32} {B : Nat → Nat → Int32} {P : Option Value → Prop} {k d3 : Nat} {A : WA} {v : Value} (ht : lw_tie A I B) (hd : d3 < 30) (hP : P (some v)) (h : ∀ g1 : Nat → va_E, bz_H L g1 (o + 407) (b_Mod E (o + 407) I B) → bz_K l E MR d3 avR L g1 (fun r g2 => r = some v ∧ bz_B L g1 g2 [(o + 407, b_Mod E (o + 407) (va_up I 0 (nI k)) B)])) : lw_R l E L o MR avR I B P k A :=
  ⟨d3, hd, fun g1 h1 => (h g1 h1).imp (fun r g2 hr => by
    obtain ⟨rfl, h2⟩ := hr
    exact ⟨hP, _, B, h2, rfl, ht.mark _⟩)⟩
theorem m_pl.congr {B B9 : Nat → Nat → Int32} {D : Pl} (h : m_pl B D) (hk : ∀ i, 2 ≤ i → i ≤ 8 → B9 i = B i) : m_pl B9 D := by
  unfold m_pl at h ⊢
  rw [hk 2 (by decide) (by decide), hk 3 (by decide) (by decide), hk 4 (by decide) (by decide), hk 5 (by decide) (by decide), hk 6 (by decide) (by decide), hk 7 (by decide) (by decide), hk 8 (by decide) (by decide)]
  exact h
theorem s_like.rf (σ : Si) : s_like σ σ := by
  refine ⟨σ.2.1.2.2.2.1, σ.2.2.2.2.2.1, ?_⟩
  have h : ∀ f : Nat → Int32, va_cpy f f 0 0 16 = f := fun f => by
    funext j
    unfold va_cpy
    split
    · congr 1; omega
    · rfl
  unfold s_cm
  rw [h, h]
theorem s_like.symm {σ τ : Si} (h : s_like σ τ) : s_like τ σ := by
  obtain ⟨m0, m1, rfl⟩ := h
  refine ⟨σ.2.1.2.2.2.1, σ.2.2.2.2.2.1, ?_⟩
  have h : ∀ f m : Nat → Int32, va_cpy (va_cpy f m 0 0 16) f 0 0 16 = f := fun f m => by
    funext j
    unfold va_cpy
    by_cases c : 0 ≤ j ∧ j < 0 + 16
    · rw [if_pos c, if_pos ⟨by omega, by omega⟩]; congr 1; omega
    · rw [if_neg c]
  unfold s_cm
  dsimp only
  rw [h, h]
theorem lw_si.like {D : Pl} {σ τ : Si} (h : lw_si D σ) (hl : s_like σ τ) : lw_si D τ := ⟨⟨hl.inv h.1.1, hl.hb h.1.2.1, hl.t2 h.1.2.2⟩, h.2.1.like hl, by rw [hl.tm]; exact h.2.2⟩
theorem lw_si.run {D : Pl} {σ : Si} {n : Nat} (hsp : 1 ≤ D.2.2.2.2.1) (h : lw_si D σ) (hn : (s_run D n σ).1 ≤ 9999) : lw_si D (s_run D n σ) := ⟨h.1.run hsp n, h.2.1.run n, hn⟩
theorem lw_kp {D : Pl} {hs : List Si} {τ : Si} (h : ∀ x ∈ hs, lw_si D x) (ht : lw_si D τ) : ∀ x ∈ s_kp hs τ, lw_si D x := by
  intro x hx
  unfold s_kp at hx
  rcases List.mem_append.mp hx with h1 | h1
  · split at h1
    · exact h x (List.mem_of_mem_tail h1)
    · exact h x h1
  · rw [List.mem_singleton.mp h1]; exact ht
/-- a call that keeps the situation before it -/
theorem lw_tie.kp {A : WA} {I I9 : Nat → Int32} {B B9 : Nat → Nat → Int32} {τ σ1 : Si} (h : lw_tie A I B) (hlk : s_like A.s τ) (hN : m_st (B9 1) σ1) (hU : m_un (B9 13) (s_kp A.hs A.s)) (hI : I9 27 = nI (s_kp A.hs A.s).length) (hsi : lw_si A.D σ1) (hk : ∀ i, (2 ≤ i ∧ i ≤ 9) ∨ i = 14 ∨ i = 15 → B9 i = B i) (h10 : I9 10 = I 10) (h17 : I9 17 = I 17) : lw_tie ((A.u_hs (s_kp A.hs τ)).u_s σ1) I9 B9 := by
  obtain ⟨td, tp, ts, ti, tu, tl, th, tn, tb, te, tv⟩ := h
  refine ⟨td, tp.congr (fun i a b => hk i (Or.inl ⟨a, by omega⟩)), hN, hsi, m_un_kp hU hlk, hI.trans (congrArg nI s_kp_like_len), lw_kp th (ti.like hlk), h10.trans tn, fun i hi => ?_, h17.trans te, fun s hs => ?_⟩
  · rw [hk 9 (Or.inl ⟨by decide, by decide⟩)]; exact tb i hi
  · rw [hk 15 (Or.inr (Or.inr rfl)), hk 14 (Or.inr (Or.inl rfl))]
    exact tv s hs
/-- a call that only looks ahead -/
theorem lw_tie.look {A : WA} {I I9 : Nat → Int32} {B B9 : Nat → Nat → Int32} (h : lw_tie A I B) (hN : m_st (B9 1) A.s) (hk : ∀ i, (2 ≤ i ∧ i ≤ 9) ∨ (13 ≤ i ∧ i ≤ 15) → B9 i = B i) (hI : I9 10 = I 10 ∧ I9 17 = I 17 ∧ I9 27 = I 27) : lw_tie A I9 B9 := by
  obtain ⟨td, tp, ts, ti, tu, tl, th, tn, tb, te, tv⟩ := h
  refine ⟨td, tp.congr (fun i a b => hk i (Or.inl ⟨a, by omega⟩)), hN, ti, ?_, hI.2.2.trans tl, th, hI.1.trans tn, fun i hi => ?_, hI.2.1.trans te, fun s hs => ?_⟩
  · rw [hk 13 (Or.inr ⟨by decide, by decide⟩)]; exact tu
  · rw [hk 9 (Or.inl ⟨by decide, by decide⟩)]; exact tb i hi
  · rw [hk 15 (Or.inr ⟨by decide, by decide⟩), hk 14 (Or.inr ⟨by decide, by decide⟩)]
    exact tv s hs
