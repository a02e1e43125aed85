/-! BLOCKS: cells at addresses in a row; what a method leaves of the pool. -/
def bz_H (L : List Nat) (g : Nat → va_E) (o : Nat) (es : List va_E) : Prop := ∀ (i : Nat) (e : va_E), es[i]? = some e → (o + i) ∈ L ∧ g (o + i) = e
def bz_S (g1 g : Nat → va_E) (rs : List (Nat × Nat)) : Prop := ∀ a : Nat, (∀ r ∈ rs, ¬ (r.1 ≤ a ∧ a < r.1 + r.2)) → g1 a = g a
abbrev bz_L : Type := List (Nat × List va_E)
def bz_ap (bs : bz_L) : Prop := bs.Pairwise (fun x y => x.1 + x.2.length ≤ y.1 ∨ y.1 + y.2.length ≤ x.1)
def bz_W (L : List Nat) (g : Nat → va_E) (bs : bz_L) : Prop := (∀ b ∈ bs, bz_H L g b.1 b.2) ∧ bz_ap bs
def bz_B (L : List Nat) (g0 g : Nat → va_E) (bs : bz_L) : Prop := bz_W L g bs ∧ bz_S g g0 (bs.map (fun b => (b.1, b.2.length)))
def bz_sp (es : List va_E) (i : Nat) (e1 : List va_E) : List va_E := es.take i ++ (e1 ++ es.drop (i + e1.length))
theorem bz_B.rf {L : List Nat} {g : Nat → va_E} {bs : bz_L} (h : bz_W L g bs) : bz_B L g g bs := ⟨h, fun _ _ => rfl⟩
theorem bz_W.one {L : List Nat} {g : Nat → va_E} {o : Nat} {es : List va_E} (h : bz_H L g o es) : bz_W L g [(o, es)] := ⟨fun b hb => by rw [List.mem_singleton.mp hb]; exact h, List.pairwise_singleton _ _⟩
theorem bz_W.two {L : List Nat} {g : Nat → va_E} {o o2 : Nat} {es es2 : List va_E} (h : bz_H L g o es) (h2 : bz_H L g o2 es2) (hd : o + es.length ≤ o2 ∨ o2 + es2.length ≤ o) : bz_W L g [(o, es), (o2, es2)] := by
  refine ⟨fun b hb => ?_, ?_⟩
  · rcases List.mem_cons.mp hb with rfl | hb
    · exact h
    · rw [List.mem_singleton.mp hb]; exact h2
  · exact List.pairwise_cons.mpr ⟨fun b hb => by rw [List.mem_singleton.mp hb]; exact hd, List.pairwise_singleton _ _⟩
theorem bz_W.at {L : List Nat} {g : Nat → va_E} {bs : bz_L} (h : bz_W L g bs) {j o : Nat} {es : List va_E} (hb : bs[j]? = some (o, es)) : bz_H L g o es := h.1 _ (List.mem_of_getElem? hb)
theorem bz_H.sub {L : List Nat} {g : Nat → va_E} {o : Nat} {es e1 : List va_E} (h : bz_H L g o es) (i : Nat) (he : (es.drop i).take e1.length = e1) : bz_H L g (o + i) e1 := by
  intro k e hk
  have h1 : ((es.drop i).take e1.length)[k]? = some e := by rw [he]; exact hk
  rw [List.getElem?_take] at h1
  by_cases hl : k < e1.length
  · rw [if_pos hl, List.getElem?_drop] at h1
    have := h (i + k) e h1
    rw [show o + i + k = o + (i + k) by omega]
    exact this
  · rw [if_neg hl] at h1; cases h1
theorem bz_H.set {L : List Nat} {g : Nat → va_E} {o i : Nat} {es : List va_E} {e1 : va_E} (h : bz_H L g o es) (hi : i < es.length) : bz_H L (va_up g (o + i) e1) o (es.set i e1) := by
  intro k e hk
  by_cases hki : k = i
  · subst hki
    rw [List.getElem?_set_self hi] at hk
    cases hk
    refine ⟨(h k es[k] (List.getElem?_eq_getElem hi)).1, ?_⟩
    simp [va_up]
  · rw [List.getElem?_set_ne (Ne.symm hki)] at hk
    obtain ⟨h1, h2⟩ := h k e hk
    refine ⟨h1, ?_⟩
    unfold va_up
    rw [if_neg (by omega)]
    exact h2
theorem bz_H.out {L : List Nat} {g g1 : Nat → va_E} {o : Nat} {es : List va_E} (h : bz_H L g o es) (hg : ∀ a, o ≤ a → a < o + es.length → g1 a = g a) : bz_H L g1 o es := by
  intro k e hk
  have hl := (List.getElem?_eq_some_iff.mp hk).1
  obtain ⟨h1, h2⟩ := h k e hk
  exact ⟨h1, by rw [hg _ (by omega) (by omega)]; exact h2⟩
theorem bz_apset {bs : bz_L} (h : bz_ap bs) {j o : Nat} {es es1 : List va_E} (hb : bs[j]? = some (o, es)) (hl : es1.length = es.length) : bz_ap (bs.set j (o, es1)) := by
  unfold bz_ap at h ⊢
  rw [List.pairwise_iff_getElem] at h ⊢
  intro x y hx hy hxy
  rw [List.length_set] at hx hy
  have key : ∀ (z : Nat) (hz : z < bs.length), ((bs.set j (o, es1))[z]'(by rw [List.length_set]; exact hz)).1 = bs[z].1 ∧ ((bs.set j (o, es1))[z]'(by rw [List.length_set]; exact hz)).2.length = bs[z].2.length := by
    intro z hz
    by_cases hzj : z = j
    · subst hzj
      have hbz : bs[z] = (o, es) := by rw [List.getElem?_eq_getElem hz] at hb; exact Option.some.inj hb
      rw [List.getElem_set_self]
      rw [hbz]
      exact ⟨rfl, hl⟩
    · rw [List.getElem_set_ne (Ne.symm hzj)]
      exact ⟨rfl, rfl⟩
  have h1 := h x y hx hy hxy
  obtain ⟨a1, a2⟩ := key x hx
  obtain ⟨b1, b2⟩ := key y hy
  rw [a1, a2, b1, b2]
  exact h1
theorem bz_B.gen {L : List Nat} {g0 g g1 : Nat → va_E} {bs : bz_L} (h : bz_B L g0 g bs) {j o : Nat} {es es1 : List va_E} (hb : bs[j]? = some (o, es)) (hl : es1.length = es.length) (h1 : bz_H L g1 o es1) (hs : ∀ a, ¬ (o ≤ a ∧ a < o + es.length) → g1 a = g a) : bz_B L g0 g1 (bs.set j (o, es1)) := by
  have hj := (List.getElem?_eq_some_iff.mp hb).1
  refine ⟨⟨fun b hbm => ?_, bz_apset h.1.2 hb hl⟩, fun a ha => ?_⟩
  · obtain ⟨z, hz⟩ := List.getElem?_of_mem hbm
    by_cases hzj : z = j
    · subst hzj
      rw [List.getElem?_set_self hj] at hz
      cases hz
      exact h1
    · rw [List.getElem?_set_ne (Ne.symm hzj)] at hz
      have hzl := (List.getElem?_eq_some_iff.mp hz).1
      refine (h.1.1 b (List.mem_of_getElem? hz)).out (fun a h2 h3 => hs a (fun h4 => ?_))
      have hap := h.1.2
      unfold bz_ap at hap
      rw [List.pairwise_iff_getElem] at hap
      have ez : bs[z] = b := by rw [List.getElem?_eq_getElem hzl] at hz; exact Option.some.inj hz
      have ej : bs[j] = (o, es) := by rw [List.getElem?_eq_getElem hj] at hb; exact Option.some.inj hb
      rcases Nat.lt_or_gt_of_ne hzj with q | q
      · have := hap z j hzl hj q
        rw [ez, ej] at this
        dsimp only at this
        omega
      · have := hap j z hj hzl q
        rw [ez, ej] at this
        dsimp only at this
        omega
  · have hm : (bs.set j (o, es1)).map (fun b => (b.1, b.2.length)) = bs.map (fun b => (b.1, b.2.length)) := by
      apply List.ext_getElem?
      intro z
      rw [List.getElem?_map, List.getElem?_map]
      by_cases hzj : z = j
      · subst hzj
        rw [List.getElem?_set_self hj, hb]
        simp [hl]
      · rw [List.getElem?_set_ne (Ne.symm hzj)]
    rw [hm] at ha
    rw [hs a (fun hc => ha (o, es.length) (List.mem_map.mpr ⟨(o, es), List.mem_of_getElem? hb, rfl⟩) hc)]
    exact h.2 a ha
theorem bz_B.up {L : List Nat} {g0 g : Nat → va_E} {bs : bz_L} (h : bz_B L g0 g bs) {j o i : Nat} {es : List va_E} (hb : bs[j]? = some (o, es)) (hi : i < es.length) (e1 : va_E) : bz_B L g0 (va_up g (o + i) e1) (bs.set j (o, es.set i e1)) :=
  h.gen hb (by simp) ((h.1.at hb).set hi) (fun a ha => by unfold va_up; rw [if_neg (by omega)])
theorem bz_spl {es e1 : List va_E} {i : Nat} (h : i + e1.length ≤ es.length) : (bz_sp es i e1).length = es.length := by
  unfold bz_sp
  simp only [List.length_append, List.length_take, List.length_drop]
  omega
theorem bz_spg {es e1 : List va_E} {i k : Nat} (h : i + e1.length ≤ es.length) : (bz_sp es i e1)[k]? = if k < i then es[k]? else if k < i + e1.length then e1[k - i]? else es[k]? := by
  unfold bz_sp
  by_cases h1 : k < i
  · rw [if_pos h1, List.getElem?_append_left (by rw [List.length_take]; omega), List.getElem?_take, if_pos h1]
  · rw [if_neg h1, List.getElem?_append_right (by rw [List.length_take]; omega), List.length_take, Nat.min_eq_left (by omega)]
    by_cases h2 : k < i + e1.length
    · rw [if_pos h2, List.getElem?_append_left (by omega)]
    · rw [if_neg h2, List.getElem?_append_right (by omega), List.getElem?_drop]
      congr 1
      omega
/-- behind a call on a part of a block -/
theorem bz_B.sp {L : List Nat} {g0 g g1 : Nat → va_E} {bs : bz_L} (h : bz_B L g0 g bs) {j o : Nat} {es e1 : List va_E} (hb : bs[j]? = some (o, es)) (i : Nat) {a1 : Nat} (ha : a1 = o + i) (h1 : bz_B L g g1 [(a1, e1)]) (hl : i + e1.length ≤ es.length) : bz_B L g0 g1 (bs.set j (o, bz_sp es i e1)) := by
  subst ha
  have hs : ∀ a, ¬ (o + i ≤ a ∧ a < o + i + e1.length) → g1 a = g a := fun a ha => h1.2 a (fun r hr => by
    have hr2 : r = (o + i, e1.length) := by simpa using hr
    rw [hr2]; exact ha)
  refine h.gen hb (bz_spl hl) (fun k e hk => ?_) (fun a ha => hs a (by omega))
  rw [bz_spg hl] at hk
  have hH := h.1.at hb
  have hH1 := h1.1.at (j := 0) rfl
  by_cases c1 : k < i
  · rw [if_pos c1] at hk
    obtain ⟨x1, x2⟩ := hH k e hk
    exact ⟨x1, by rw [hs _ (by omega)]; exact x2⟩
  · rw [if_neg c1] at hk
    by_cases c2 : k < i + e1.length
    · rw [if_pos c2] at hk
      have := hH1 (k - i) e hk
      rw [show o + i + (k - i) = o + k by omega] at this
      exact this
    · rw [if_neg c2] at hk
      obtain ⟨x1, x2⟩ := hH k e hk
      exact ⟨x1, by rw [hs _ (by omega)]; exact x2⟩
/-- behind a call on two blocks: first the one, then the other -/
theorem bz_B.mid {L : List Nat} {g g1 : Nat → va_E} {o1 o2 : Nat} {e1 e2 es1 : List va_E} (h0 : bz_H L g o1 es1) (hl : es1.length = e1.length) (h : bz_B L g g1 [(o1, e1), (o2, e2)]) : ∃ gm : Nat → va_E, bz_B L g gm [(o1, e1)] ∧ bz_B L gm g1 [(o2, e2)] := by
  have hap : o1 + e1.length ≤ o2 ∨ o2 + e2.length ≤ o1 := by
    have := h.1.2
    unfold bz_ap at this
    exact (List.pairwise_cons.mp this).1 (o2, e2) (List.mem_singleton.mpr rfl)
  have hH1 := h.1.at (j := 0) rfl
  have hH2 := h.1.at (j := 1) rfl
  have hs : ∀ a, ¬ (o1 ≤ a ∧ a < o1 + e1.length) → ¬ (o2 ≤ a ∧ a < o2 + e2.length) → g1 a = g a := fun a ha hb => h.2 a (fun r hr => by
    have hr2 : r = (o1, e1.length) ∨ r = (o2, e2.length) := by simpa using hr
    rcases hr2 with hr2 | hr2 <;> rw [hr2]
    · exact ha
    · exact hb)
  refine ⟨fun a => if o1 ≤ a ∧ a < o1 + e1.length then g1 a else g a, ⟨bz_W.one (hH1.out (fun a h1 h2 => by rw [if_pos ⟨h1, h2⟩])), fun a ha => ?_⟩, bz_W.one hH2, fun a ha => ?_⟩
  · exact if_neg (ha (o1, e1.length) (by simp))
  · have hb := ha (o2, e2.length) (by simp)
    by_cases c1 : o1 ≤ a ∧ a < o1 + e1.length
    · show g1 a = if _ then _ else _
      rw [if_pos c1]
    · show g1 a = if _ then _ else _
      rw [if_neg c1]
      exact hs a c1 hb
/-- the second block is as it was: it needs no mention -/
theorem bz_B.fst {L : List Nat} {g g1 : Nat → va_E} {o1 o2 : Nat} {e1 e2 : List va_E} (h : bz_B L g g1 [(o1, e1), (o2, e2)]) (h2 : bz_H L g o2 e2) : bz_B L g g1 [(o1, e1)] := by
  refine ⟨bz_W.one (h.1.at (j := 0) rfl), fun a ha => ?_⟩
  have hb := ha (o1, e1.length) (by simp)
  by_cases c : o2 ≤ a ∧ a < o2 + e2.length
  · have hH := h.1.at (j := 1) rfl
    have hl : a - o2 < e2.length := by omega
    have x1 := hH (a - o2) e2[a - o2] (List.getElem?_eq_getElem hl)
    have x2 := h2 (a - o2) e2[a - o2] (List.getElem?_eq_getElem hl)
    rw [show o2 + (a - o2) = a by omega] at x1 x2
    rw [x1.2, x2.2]
  · exact h.2 a (fun r hr => by
      have hr2 : r = (o1, e1.length) ∨ r = (o2, e2.length) := by simpa using hr
      rcases hr2 with hr2 | hr2 <;> rw [hr2]
      · exact hb
      · exact c)
