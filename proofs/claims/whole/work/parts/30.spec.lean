/-! THE BRIDGE AS MATHEMATICS: what class and reference both do. A transaction: kind, tag, relaxed, address, words, time (came; in a target: from when it is worked on), offset (words of a read that are answered; a completion's first index), the words that it carries. -/
abbrev Tx : Type := Nat × Nat × Bool × Nat × Nat × Nat × Nat × List Int32
abbrev tK (x : Tx) : Nat := x.1
abbrev tT (x : Tx) : Nat := x.2.1
abbrev tR (x : Tx) : Bool := x.2.2.1
abbrev tA (x : Tx) : Nat := x.2.2.2.1
abbrev tW (x : Tx) : Nat := x.2.2.2.2.1
abbrev tM (x : Tx) : Nat := x.2.2.2.2.2.1
abbrev tO (x : Tx) : Nat := x.2.2.2.2.2.2.1
abbrev tV (x : Tx) : List Int32 := x.2.2.2.2.2.2.2
def tI (x : Tx) : Int32 := if tK x = 0 then -1 else nI (tT x)
def tB (b : Bool) : Int32 := if b then 1 else 0
def s_cnt (k : Nat) (l : List Tx) : Nat := l.countP (fun x => tK x == k)
/-- the earlier transaction b blocks a -/
def s_blk (tb : Nat → Nat) (a b : Tx) : Bool := tb (tK a * 4 + tK b) == 0 && !(tR a && tK b == 0)
def s_next (tb cr : Nat → Nat) (held : List Tx) : List Tx → List Tx → Option Nat
  | _, [] => none
  | pre, x :: r => if pre.all (fun y => !s_blk tb x y) && decide (s_cnt (tK x) held < cr (tK x)) then some pre.length else s_next tb cr held (pre ++ [x]) r
def s_wr (mem : Nat → Int32) (a : Nat) (vs : List Int32) : Nat → Int32 := fun i => if a ≤ i then (vs[i - a]?).getD (mem i) else mem i
def s_cmp (mem : Nat → Int32) (x : Tx) (off part now : Nat) : Tx := (3, tT x, tR x, tA x + off, part, now, off, (List.range part).map (fun i => mem (tA x + off + i)))
def s_ans (mem : Nat → Int32) (now room split : Nat) (x : Tx) : Nat → List Tx → Nat → List Tx × Nat
  | 0, q, off => (q, off)
  | f + 1, q, off => if off < tW x ∧ s_cnt 3 q < room then s_ans mem now room split x f (q ++ [s_cmp mem x off (min split (tW x - off)) now]) (off + min split (tW x - off)) else (q, off)
/-- tags: state, wanted, come, data -/
abbrev Tg : Type := (Nat → Nat) × (Nat → Nat) × (Nat → Nat) × (Nat → Int32)
def s_sto (t : Nat) : Nat → List Int32 → Tg → Tg
  | _, [], T => T
  | i, v :: r, T => s_sto t (i + 1) r (T.1, T.2.1, va_up T.2.2.1 t (T.2.2.1 t ||| 2 ^ i), upd T.2.2.2 (t * 4 + i) v)
def s_cpl (t : Nat) (T : Tg) : Tg := (if v_pc (T.2.2.1 t) < T.2.1 t then T.1 else va_up T.1 t 2, T.2)
/-- what a target works on: the queue for completions, tags, memory -/
abbrev Wk : Type := List Tx × Tg × (Nat → Int32)
def s_one (now room split : Nat) (x : Tx) (S : Wk) : Bool × Tx × Wk :=
  if tK x = 0 then (true, x, S.1, S.2.1, s_wr S.2.2 (tA x) (tV x))
  else if tK x = 1 then
    (decide (tW x ≤ (s_ans S.2.2 now room split x 4 S.1 (tO x)).2), (tK x, tT x, tR x, tA x, tW x, tM x, (s_ans S.2.2 now room split x 4 S.1 (tO x)).2, tV x), (s_ans S.2.2 now room split x 4 S.1 (tO x)).1, S.2.1, S.2.2)
  else if tK x = 2 then
    (if s_cnt 3 S.1 < room then (true, x, S.1 ++ [s_cmp S.2.2 x 0 0 now], S.2.1, s_wr S.2.2 (tA x) (tV x)) else (false, x, S))
  else (true, x, S.1, s_cpl (tT x) (s_sto (tT x) (tO x) (tV x) S.2.1), S.2.2)
def s_work (now room split : Nat) : List Tx → Wk → List Tx × Wk
  | [], S => ([], S)
  | x :: r, S =>
    if tM x ≤ now then
      (if (s_one now room split x S).1 then (s_work now room split r (s_one now room split x S).2.2).1 else (s_one now room split x S).2.1 :: (s_work now room split r (s_one now room split x S).2.2).1, (s_work now room split r (s_one now room split x S).2.2).2)
    else (x :: (s_work now room split r S).1, (s_work now room split r S).2)
/-- a line's cells hold these transactions -/
def s_tx (f : Nat → Int32) (i : Nat) (x : Tx) : Prop := f (i * 11 + 0) = nI (tK x) ∧ f (i * 11 + 1) = tI x ∧ f (i * 11 + 2) = tB (tR x) ∧ f (i * 11 + 3) = nI (tA x) ∧ f (i * 11 + 4) = nI (tW x) ∧ f (i * 11 + 5) = nI (tM x) ∧ f (i * 11 + 6) = nI (tO x) ∧ ∀ (j : Nat) (v : Int32), (tV x)[j]? = some v → f (i * 11 + (7 + j)) = v
def s_ln (f c : Nat → Int32) (l : List Tx) : Prop := (∀ (i : Nat) (x : Tx), l[i]? = some x → s_tx f i x) ∧ ∀ k, k < 4 → c k = nI (s_cnt k l)
/-- a transaction as it can be -/
def s_ok (x : Tx) : Prop := tK x < 4 ∧ tT x < 8 ∧ tA x + tW x ≤ 16 ∧ tW x ≤ 4 ∧ tM x < 100000 ∧ tO x ≤ 4 ∧ (tV x).length ≤ 4 ∧ (tK x = 0 ∨ tK x = 2 → (tV x).length = tW x) ∧ (tK x = 3 → (tV x).length = tW x ∧ tO x + tW x ≤ 4) ∧ (tK x = 1 → tO x ≤ tW x)
theorem s_cnt_app (k : Nat) (l : List Tx) (x : Tx) : s_cnt k (l ++ [x]) = s_cnt k l + if tK x = k then 1 else 0 := by
  unfold s_cnt
  rw [List.countP_append]
  by_cases h : tK x = k <;> simp [h]
theorem s_cnt_len (l : List Tx) (h : ∀ x ∈ l, tK x < 4) : l.length = s_cnt 0 l + s_cnt 1 l + s_cnt 2 l + s_cnt 3 l := by
  induction l with
  | nil => rfl
  | cons x r ih =>
    have hr := ih (fun y hy => h y (List.mem_cons_of_mem _ hy))
    have hx := h x List.mem_cons_self
    have hc : ∀ k, s_cnt k (x :: r) = s_cnt k r + if tK x = k then 1 else 0 := fun k => by
      unfold s_cnt
      rw [List.countP_cons]
      by_cases h : tK x = k <;> simp [h]
    rw [hc, hc, hc, hc, List.length_cons, hr]
    rcases (show tK x = 0 ∨ tK x = 1 ∨ tK x = 2 ∨ tK x = 3 by omega) with e | e | e | e <;> simp [e] <;> omega
theorem s_cnt_er (k : Nat) : ∀ (l : List Tx) (p : Nat) (x : Tx), l[p]? = some x → s_cnt k (l.eraseIdx p) + (if tK x = k then 1 else 0) = s_cnt k l
  | [], p, x, h => by simp at h
  | y :: r, 0, x, h => by
    have : y = x := by simpa using h
    subst this
    unfold s_cnt
    rw [List.eraseIdx_cons_zero, List.countP_cons]
    by_cases h : tK y = k <;> simp [h]
  | y :: r, p + 1, x, h => by
    have hr := s_cnt_er k r p x (by simpa using h)
    unfold s_cnt at hr ⊢
    rw [List.eraseIdx_cons_succ, List.countP_cons, List.countP_cons]
    omega
theorem s_tx_off {f f' : Nat → Int32} {i : Nat} {x : Tx} (hV : (tV x).length ≤ 4) (h : s_tx f i x) (hf : ∀ j, j < 11 → f' (i * 11 + j) = f (i * 11 + j)) : s_tx f' i x := by
  obtain ⟨h0, h1, h2, h3, h4, h5, h6, h7⟩ := h
  refine ⟨by rw [hf 0 (by omega)]; exact h0, by rw [hf 1 (by omega)]; exact h1, by rw [hf 2 (by omega)]; exact h2, by rw [hf 3 (by omega)]; exact h3, by rw [hf 4 (by omega)]; exact h4, by rw [hf 5 (by omega)]; exact h5, by rw [hf 6 (by omega)]; exact h6, fun j v hj => ?_⟩
  have hl := (List.getElem?_eq_some_iff.mp hj).1
  rw [hf (7 + j) (by omega)]
  exact h7 j v hj
theorem s_tx_mv {f f' : Nat → Int32} {i i' : Nat} {x : Tx} (hV : (tV x).length ≤ 4) (h : s_tx f i x) (hf : ∀ j, j < 11 → f' (i' * 11 + j) = f (i * 11 + j)) : s_tx f' i' x := by
  obtain ⟨h0, h1, h2, h3, h4, h5, h6, h7⟩ := h
  refine ⟨by rw [hf 0 (by omega)]; exact h0, by rw [hf 1 (by omega)]; exact h1, by rw [hf 2 (by omega)]; exact h2, by rw [hf 3 (by omega)]; exact h3, by rw [hf 4 (by omega)]; exact h4, by rw [hf 5 (by omega)]; exact h5, by rw [hf 6 (by omega)]; exact h6, fun j v hj => ?_⟩
  have hl := (List.getElem?_eq_some_iff.mp hj).1
  rw [hf (7 + j) (by omega)]
  exact h7 j v hj
theorem upd_ne {f : Nat → Int32} {i j : Nat} {v : Int32} (h : j ≠ i) : upd f i v j = f j := by simp [upd, h]
theorem upd_eq {f : Nat → Int32} {i : Nat} {v : Int32} : upd f i v i = v := by simp [upd]
theorem s_ln_app {f f' c c' : Nat → Int32} {l : List Tx} {x : Tx} (hok : ∀ y ∈ l, s_ok y) (h : s_ln f c l) (hx : s_tx f' l.length x) (hf : ∀ j, j < l.length * 11 → f' j = f j) (hc : ∀ k, k < 4 → c' k = c k + nI (if tK x = k then 1 else 0)) : s_ln f' c' (l ++ [x]) := by
  refine ⟨fun i y hy => ?_, fun k hk => ?_⟩
  · by_cases hi : i < l.length
    · rw [List.getElem?_append_left hi] at hy
      refine s_tx_off (hok y (List.mem_of_getElem? hy)).2.2.2.2.2.2.1 (h.1 i y hy) (fun j hj => hf _ (by omega))
    · rw [List.getElem?_append_right (by omega)] at hy
      have hz : i - l.length = 0 := by
        have := (List.getElem?_eq_some_iff.mp hy).1
        simp at this; omega
      rw [hz] at hy
      have e : x = y := by simpa using hy
      subst e
      rw [show i = l.length by omega]
      exact hx
  · rw [hc k hk, h.2 k hk, nI_add, s_cnt_app]
theorem s_ln_rm {f c : Nat → Int32} {l : List Tx} {p : Nat} {x : Tx} (hok : ∀ y ∈ l, s_ok y) (h : s_ln f c l) (hx : l[p]? = some x) : s_ln (va_cpy f f ((p + 1) * 11) (p * 11) ((l.length - 1 - p) * 11)) (upd c (tK x) (c (tK x) + (-1))) (l.eraseIdx p) := by
  have hp := (List.getElem?_eq_some_iff.mp hx).1
  refine ⟨fun i y hy => ?_, fun k hk => ?_⟩
  · rw [List.getElem?_eraseIdx] at hy
    by_cases hi : i < p
    · rw [if_pos hi] at hy
      refine s_tx_off (hok y (List.mem_of_getElem? hy)).2.2.2.2.2.2.1 (h.1 i y hy) (fun j hj => ?_)
      unfold va_cpy
      rw [if_neg (by omega)]
    · rw [if_neg hi] at hy
      have hl := (List.getElem?_eq_some_iff.mp hy).1
      refine s_tx_mv (hok y (List.mem_of_getElem? hy)).2.2.2.2.2.2.1 (h.1 (i + 1) y hy) (fun j hj => ?_)
      unfold va_cpy
      rw [if_pos ⟨by omega, by omega⟩]
      congr 1
      omega
  · have he := s_cnt_er k l p x hx
    by_cases hkx : k = tK x
    · subst hkx
      rw [upd_eq, h.2 _ hk]
      rw [if_pos rfl] at he
      rw [← he, ← nI_add]
      show nI _ + 1 + -1 = _
      rw [Int32.add_assoc, show (1 : Int32) + -1 = 0 from rfl, Int32.add_zero]
    · rw [upd_ne hkx, h.2 k hk]
      rw [if_neg (fun e => hkx e.symm)] at he
      congr 1
      omega
theorem s_ln_cp {f c f2 c2 : Nat → Int32} {l : List Tx} (hok : ∀ y ∈ l, s_ok y) (h : s_ln f2 c2 l) : s_ln (va_cpy f2 f 0 0 (l.length * 11)) (va_cpy c2 c 0 0 4) l := by
  refine ⟨fun i y hy => ?_, fun k hk => ?_⟩
  · have hl := (List.getElem?_eq_some_iff.mp hy).1
    refine s_tx_off (hok y (List.mem_of_getElem? hy)).2.2.2.2.2.2.1 (h.1 i y hy) (fun j hj => ?_)
    unfold va_cpy
    rw [if_pos ⟨by omega, by omega⟩]
    congr 1
    omega
  · unfold va_cpy
    rw [if_pos ⟨by omega, by omega⟩, ← h.2 k hk]
    congr 1
    omega
/-- one transaction of a line is written over -/
theorem s_ln_set {f f' c : Nat → Int32} {l : List Tx} {p : Nat} {x y : Tx} (hok : ∀ z ∈ l, s_ok z) (h : s_ln f c l) (hx : l[p]? = some x) (hk : tK y = tK x) (hy : s_tx f' p y) (hf : ∀ j, ¬ (p * 11 ≤ j ∧ j < p * 11 + 11) → f' j = f j) : s_ln f' c (l.set p y) := by
  have hp := (List.getElem?_eq_some_iff.mp hx).1
  refine ⟨fun i z hz => ?_, fun k hk4 => ?_⟩
  · by_cases hi : i = p
    · subst hi
      rw [List.getElem?_set_self hp] at hz
      cases hz
      exact hy
    · rw [List.getElem?_set_ne (Ne.symm hi)] at hz
      exact s_tx_off (hok z (List.mem_of_getElem? hz)).2.2.2.2.2.2.1 (h.1 i z hz) (fun j hj => hf _ (by omega))
  · rw [h.2 k hk4]
    congr 1
    clear h hy hf hok
    induction l generalizing p with
    | nil => simp at hp
    | cons a r ih =>
      cases p with
      | zero =>
        have : a = x := by simpa using hx
        subst this
        unfold s_cnt
        rw [List.set_cons_zero, List.countP_cons, List.countP_cons, hk]
      | succ p =>
        have := ih (p := p) (by simpa using hx) (by simpa using hp)
        unfold s_cnt at this ⊢
        rw [List.set_cons_succ, List.countP_cons, List.countP_cons, this]
