/-! THE LAW: what the start gives: classes, rows, texts -/
theorem lw_w (k : Nat) {w : Cond} (h : lw_tbl[k]? = some w) : w ∈ lw_tbl := List.mem_of_getElem? h
theorem lw_arr {args : Array Value} {s : State} {ty : FieldType} (h : (Cond.arrayClass ty).before args s = true) : ∃ cA : ClassId, ArrOfT s cA ty ∧ s.vm.findClass ("[" ++ ty.toString) = some cA := by
  obtain ⟨cA, kA, comp, h1, h2, h3⟩ := Cond.arrayClass_spec h
  exact ⟨cA, fun n z => ⟨fun k h => (by cases h), kA, h2, comp, h3⟩, h1⟩
theorem lw_arO {args : Array Value} {s : State} {C : String} (h : (Cond.arrayOver (.object C)).before args s = true) : ∃ cA : ClassId, ArrOfT s cA (.object C) ∧ va_RA s cA (.object C) := by
  obtain ⟨comp, cA, kA, h1, h2, h3, h4, h5⟩ := Cond.arrayOver_spec h
  exact ⟨cA, fun n z => ⟨fun k h => (by cases h), kA, h3, comp, h4⟩, kA, comp, h3, h4, h1, h5⟩
abbrev lw_fl : List Cond := flatC (Jvm.Cond.and given_1 narrow_1)
def lw_rep : List (String × Nat) := [(RX0, 60), (RX0, 73), (RX0, 78), (RX0, 82), (RX0, 87), (RX0, 101), (RX0, 109), (RX0, 155), (RX0, 157), (RX0, 159), (RX0, 161), (RX8, 73), (RX8, 274), (RX8, 272), (RX8, 278), (RX8, 158), (RX8, 283), (RX8, 184), (RX8, 226), (RX8, 228), (RX8, 285), (RX8, 290), (RX8, 295), (RX8, 255), (RX8, 276), (RX8, 270)]
def lw_tm (i : Nat) : Term := .string (lw_rep.getD i ("", 0)).1 (lw_rep.getD i ("", 0)).2
abbrev lw_vl (i : Nat) : Term := .field (lw_tm i) "java/lang/String" "value" "[B"
theorem lw_x1 : ∀ i, i < 26 → Cond.exactly (lw_tm i) "java/lang/String" ∈ lw_fl := by decide +kernel
theorem lw_x2 : ∀ i, i < 11 → Cond.eq (.field (lw_tm i) "java/lang/String" "coder" "B") (.int 0) ∈ lw_fl := by decide +kernel
theorem lw_x3 : ∀ i, i < 11 → Cond.arrayOf (lw_vl i) .byte ∈ lw_fl := by decide +kernel
theorem lw_x4 : ∀ i, i < 11 → Cond.eq (.length (lw_vl i)) (.int (Int32.ofNat (bz_len.getD i 0))) ∈ lw_fl := by decide +kernel
theorem lw_x5 : ∀ i, i < 11 → ∀ j, j < bz_len.getD i 0 → Cond.eq (.elem (lw_vl i) (.int (Int32.ofNat j))) (.int ((bz_byt.getD i []).getD j 0)) ∈ lw_fl := by decide +kernel
theorem lw_x6 : ∀ i, i < 11 → bz_len.getD i 0 < 2 ^ 31 := by decide +kernel
theorem lw_x7 : ∀ q ∈ bz_str, q.2.2.2 < 26 ∧ (lw_tm q.2.2.2 = .string q.1 q.2.1 ∨ Cond.eq (lw_tm q.2.2.2) (.string q.1 q.2.1) ∈ lw_fl) := by decide +kernel
theorem lw_x8 : ∀ q ∈ bz_ncs, Cond.not (.castable q.1 q.2) ∈ lw_fl := by decide +kernel
theorem lw_sr : ∀ q ∈ bz_str, Cond.stringRef q.1 q.2.1 q.2.2.1 ∈ lw_tbl := List.forall_mem_cons.mpr ⟨lw_w 694 (by decide +kernel), List.forall_mem_cons.mpr ⟨lw_w 760 (by decide +kernel), List.forall_mem_cons.mpr ⟨lw_w 825 (by decide +kernel), List.forall_mem_cons.mpr ⟨lw_w 826 (by decide +kernel), List.forall_mem_cons.mpr ⟨lw_w 827 (by decide +kernel), List.forall_mem_cons.mpr ⟨lw_w 828 (by decide +kernel), List.forall_mem_cons.mpr ⟨lw_w 848 (by decide +kernel), List.forall_mem_cons.mpr ⟨lw_w 849 (by decide +kernel), List.forall_mem_cons.mpr ⟨lw_w 850 (by decide +kernel), List.forall_mem_cons.mpr ⟨lw_w 851 (by decide +kernel), List.forall_mem_cons.mpr ⟨lw_w 861 (by decide +kernel), List.forall_mem_cons.mpr ⟨lw_w 866 (by decide +kernel), List.forall_mem_cons.mpr ⟨lw_w 899 (by decide +kernel), List.forall_mem_cons.mpr ⟨lw_w 926 (by decide +kernel), List.forall_mem_cons.mpr ⟨lw_w 938 (by decide +kernel), List.forall_mem_cons.mpr ⟨lw_w 978 (by decide +kernel), List.forall_mem_cons.mpr ⟨lw_w 994 (by decide +kernel), List.forall_mem_cons.mpr ⟨lw_w 1033 (by decide +kernel), List.forall_mem_cons.mpr ⟨lw_w 1086 (by decide +kernel), List.forall_mem_cons.mpr ⟨lw_w 1087 (by decide +kernel), List.forall_mem_cons.mpr ⟨lw_w 1107 (by decide +kernel), List.forall_mem_cons.mpr ⟨lw_w 1113 (by decide +kernel), List.forall_mem_cons.mpr ⟨lw_w 1136 (by decide +kernel), List.forall_mem_cons.mpr ⟨lw_w 1159 (by decide +kernel), List.forall_mem_cons.mpr ⟨lw_w 1174 (by decide +kernel), List.forall_mem_cons.mpr ⟨lw_w 1186 (by decide +kernel), List.forall_mem_cons.mpr ⟨lw_w 1348 (by decide +kernel), List.forall_mem_cons.mpr ⟨lw_w 1367 (by decide +kernel), List.forall_mem_cons.mpr ⟨lw_w 1368 (by decide +kernel), List.forall_mem_cons.mpr ⟨lw_w 1369 (by decide +kernel), List.forall_mem_cons.mpr ⟨lw_w 1370 (by decide +kernel), List.forall_mem_cons.mpr ⟨lw_w 1382 (by decide +kernel), List.forall_mem_cons.mpr ⟨lw_w 1383 (by decide +kernel), List.forall_mem_cons.mpr ⟨lw_w 1404 (by decide +kernel), List.forall_mem_cons.mpr ⟨lw_w 1405 (by decide +kernel), List.forall_mem_cons.mpr ⟨lw_w 1406 (by decide +kernel), List.forall_mem_cons.mpr ⟨lw_w 1407 (by decide +kernel), fun _ h => absurd h List.not_mem_nil⟩⟩⟩⟩⟩⟩⟩⟩⟩⟩⟩⟩⟩⟩⟩⟩⟩⟩⟩⟩⟩⟩⟩⟩⟩⟩⟩⟩⟩⟩⟩⟩⟩⟩⟩⟩⟩
theorem lw_ns : ∀ q ∈ bz_nst, Cond.methodLinkNest q.1 q.2.1 q.2.2 "BusBridge" ∈ lw_tbl := List.forall_mem_cons.mpr ⟨lw_w 119 (by decide +kernel), List.forall_mem_cons.mpr ⟨lw_w 168 (by decide +kernel), List.forall_mem_cons.mpr ⟨lw_w 174 (by decide +kernel), List.forall_mem_cons.mpr ⟨lw_w 224 (by decide +kernel), List.forall_mem_cons.mpr ⟨lw_w 230 (by decide +kernel), List.forall_mem_cons.mpr ⟨lw_w 236 (by decide +kernel), List.forall_mem_cons.mpr ⟨lw_w 255 (by decide +kernel), List.forall_mem_cons.mpr ⟨lw_w 326 (by decide +kernel), List.forall_mem_cons.mpr ⟨lw_w 378 (by decide +kernel), List.forall_mem_cons.mpr ⟨lw_w 445 (by decide +kernel), List.forall_mem_cons.mpr ⟨lw_w 522 (by decide +kernel), List.forall_mem_cons.mpr ⟨lw_w 856 (by decide +kernel), List.forall_mem_cons.mpr ⟨lw_w 999 (by decide +kernel), List.forall_mem_cons.mpr ⟨lw_w 1023 (by decide +kernel), fun _ h => absurd h List.not_mem_nil⟩⟩⟩⟩⟩⟩⟩⟩⟩⟩⟩⟩⟩⟩
theorem lw_xs : ∀ c ∈ bz_xs, Cond.castable c c ∈ lw_tbl := List.forall_mem_cons.mpr ⟨lw_w 655 (by decide +kernel), List.forall_mem_cons.mpr ⟨lw_w 1026 (by decide +kernel), List.forall_mem_cons.mpr ⟨lw_w 892 (by decide +kernel), fun _ h => absurd h List.not_mem_nil⟩⟩⟩
theorem lw_ds : ∀ x ∈ bz_ds, Cond.declares x ∈ lw_tbl := List.forall_mem_cons.mpr ⟨lw_w 657 (by decide +kernel), List.forall_mem_cons.mpr ⟨lw_w 659 (by decide +kernel), List.forall_mem_cons.mpr ⟨lw_w 661 (by decide +kernel), fun _ h => absurd h List.not_mem_nil⟩⟩⟩
set_option maxRecDepth 20000 in
set_option maxHeartbeats 1000000 in
theorem lw_str {args : Array Value} {s : State} (hfl : ∀ c ∈ lw_fl, c.before args s = true) (hA : ∀ a : Nat, a < s.heap.size → ¬ bz_A [] s a) : ∃ ad : Nat → Nat × Nat, ∀ i, i < 26 → (lw_tm i).eval args s none [] s = some (.ref (ad i).1) ∧ (i < 11 → vk_S 1 [bz_len.getD i 0] [bz_byt.getD i []] (fun _ => (ad i).1) (fun _ => (ad i).2) (bz_A [] s) s s.heap) := by
  have h0 : ∀ i : Nat, ∃ q : Nat × Nat, i < 26 → (lw_tm i).eval args s none [] s = some (.ref q.1) ∧ (i < 11 → vk_S 1 [bz_len.getD i 0] [bz_byt.getD i []] (fun _ => q.1) (fun _ => q.2) (bz_A [] s) s s.heap) := by
    intro i
    by_cases h11 : i < 11
    · obtain ⟨adK, adV, h1, h2⟩ := vk_Sof (args := args) (s := s) (N := 1) (tm := fun _ => lw_tm i) (len := [bz_len.getD i 0]) (byt := [bz_byt.getD i []]) (A := bz_A [] s)
        (fun j hj => by rw [show j = 0 by omega]; exact lw_x6 i h11) (fun j hj => hfl _ (lw_x1 i (by omega))) (fun j hj => hfl _ (lw_x2 i h11)) (fun j hj => hfl _ (lw_x3 i h11)) (fun j hj => by rw [show j = 0 by omega]; exact hfl _ (lw_x4 i h11)) (fun j hj k hk => by
          obtain rfl : j = 0 := by omega
          exact hfl _ (lw_x5 i h11 k hk)) (fun j k hj hk hjk => absurd (by omega) hjk) hA
      refine ⟨(adK 0, adV 0), fun _ => ⟨h2 0 (by decide), fun _ => ⟨fun j hj => ?_, fun j k hj hk _ => by omega⟩⟩⟩
      obtain rfl : j = 0 := by omega
      exact h1.1 0 (by decide)
    · by_cases h26 : i < 26
      · obtain ⟨a, c, cA, kA, q1, -⟩ := Cond.exactly_spec (args := args) (first := s) (o := none) (s := s) (idx := []) (t := lw_tm i) (cls := "java/lang/String") (hfl _ (lw_x1 i h26))
        exact ⟨(a, 0), fun _ => ⟨q1, fun h => absurd h h11⟩⟩
      · exact ⟨(0, 0), fun h => absurd h h26⟩
  obtain ⟨ad, had⟩ := Classical.axiomOfChoice h0
  exact ⟨ad, had⟩
set_option maxRecDepth 20000 in
set_option maxHeartbeats 1000000 in
theorem lw_env {args : Array Value} {s : State} (hts : ∀ w ∈ lw_tbl, w.before args s = true) (hgv : (Jvm.Cond.and given_1 narrow_1).before args s = true) : ∃ E : bz_E, va_K E.1 bz_Cl (bz_tys E) s ∧ bz_N s ∧ bz_Z E (bz_A [] s) s s.heap := by
  have hfl : ∀ c ∈ lw_fl, c.before args s = true := flat_of_before _ hgv
  have hA : ∀ a : Nat, a < s.heap.size → ¬ bz_A [] s a := fun a h1 h2 => h2.elim (fun h => by cases h) (fun h => by omega)
  obtain ⟨ad, had⟩ := lw_str hfl hA
  obtain ⟨c0, i0, hKn0⟩ := u_known (C := RX0) (T := TX0) (N := 13) (n := 13) hts (fun w hw => (List.mem_filter.mp (inX0 w hw)).1) (hts _ (lw_w 118 (w := .instantiable RX0 13) (by decide +kernel)))
  obtain ⟨c1, i1, hKn1⟩ := u_known (C := RX1) (T := TX1) (N := 3) (n := 3) hts (fun w hw => (List.mem_filter.mp (inX1 w hw)).1) (hts _ (lw_w 319 (w := .instantiable RX1 3) (by decide +kernel)))
  obtain ⟨c2, i2, hKn2⟩ := u_known (C := RX2) (T := TX2) (N := 3) (n := 3) hts (fun w hw => (List.mem_filter.mp (inX2 w hw)).1) (hts _ (lw_w 235 (w := .instantiable RX2 3) (by decide +kernel)))
  obtain ⟨c3, i3, hKn3⟩ := u_known (C := RX3) (T := TX3) (N := 8) (n := 8) hts (fun w hw => (List.mem_filter.mp (inX3 w hw)).1) (hts _ (lw_w 167 (w := .instantiable RX3 8) (by decide +kernel)))
  obtain ⟨c4, i4, hKn4⟩ := u_known (C := RX4) (T := TX4) (N := 7) (n := 7) hts (fun w hw => (List.mem_filter.mp (inX4 w hw)).1) (hts _ (lw_w 229 (w := .instantiable RX4 7) (by decide +kernel)))
  obtain ⟨c5, i5, hKn5⟩ := u_known (C := RX5) (T := TX5) (N := 4) (n := 4) hts (fun w hw => (List.mem_filter.mp (inX5 w hw)).1) (hts _ (lw_w 223 (w := .instantiable RX5 4) (by decide +kernel)))
  obtain ⟨c6, i6, hKn6⟩ := u_known (C := RX6) (T := TX6) (N := 3) (n := 3) hts (fun w hw => (List.mem_filter.mp (inX6 w hw)).1) (hts _ (lw_w 173 (w := .instantiable RX6 3) (by decide +kernel)))
  obtain ⟨c7, i7, hKn7⟩ := u_known (C := RX7) (T := TX7) (N := 4) (n := 4) hts (fun w hw => (List.mem_filter.mp (inX7 w hw)).1) (hts _ (lw_w 254 (w := .instantiable RX7 4) (by decide +kernel)))
  obtain ⟨c8, i8, hKn8⟩ := u_known (C := RX8) (T := TX8) (N := 13) (n := 13) hts (fun w hw => (List.mem_filter.mp (inX8 w hw)).1) (hts _ (lw_w 110 (w := .instantiable RX8 13) (by decide +kernel)))
  obtain ⟨c9, i9, hKn9⟩ := u_known (C := RX9) (T := TX9) (N := 31) (n := 31) hts (fun w hw => (List.mem_filter.mp (inX9 w hw)).1) (hts _ (lw_w 1188 (w := .instantiable RX9 31) (by decide +kernel)))
  obtain ⟨aB, hAB⟩ := lw_arr (hts _ (lw_w 164 (w := .arrayClass .byte) (by decide +kernel)))
  obtain ⟨aI, hAI⟩ := lw_arr (hts _ (lw_w 165 (w := .arrayClass .int) (by decide +kernel)))
  obtain ⟨aZ, hAZ⟩ := lw_arr (hts _ (lw_w 1309 (w := .arrayClass .boolean) (by decide +kernel)))
  obtain ⟨aJ, hAJ⟩ := lw_arr (hts _ (lw_w 1663 (w := .arrayClass .long) (by decide +kernel)))
  obtain ⟨aD, hAD⟩ := lw_arr (hts _ (lw_w 1664 (w := .arrayClass .double) (by decide +kernel)))
  obtain ⟨aO, hAO⟩ := lw_arO (hts _ (lw_w 325 (w := .arrayOver (.object "BusBridge$Situation")) (by decide +kernel)))
  refine ⟨((fun k => (List.lookup k [(0, c0), (1, c1), (2, c2), (3, c3), (4, c4), (5, c5), (6, c6), (7, c7), (8, c8), (9, c9), (20, aB), (21, aI), (22, aZ), (23, aO), (24, aJ), (25, aD)]).getD c0, fun k => (List.lookup k [(0, i0), (1, i1), (2, i2), (3, i3), (4, i4), (5, i5), (6, i6), (7, i7), (8, i8), (9, i9)]).getD i0), (fun i => (ad i).1, fun i => (ad i).2)), ⟨fun k q hq => ?_, fun k q hq => ?_⟩, fun q hq => va_Nw.of rfl (hts _ (lw_ns q hq)), fun i hi => (had i (by omega)).2 hi, fun q hq => ?_, ?_⟩
  · match k, hq with
    | 0, hq => cases hq; exact hKn0
    | 1, hq => cases hq; exact hKn1
    | 2, hq => cases hq; exact hKn2
    | 3, hq => cases hq; exact hKn3
    | 4, hq => cases hq; exact hKn4
    | 5, hq => cases hq; exact hKn5
    | 6, hq => cases hq; exact hKn6
    | 7, hq => cases hq; exact hKn7
    | 8, hq => cases hq; exact hKn8
    | 9, hq => cases hq; exact hKn9
    | k + 10, hq => cases hq
  · match k, hq with
    | 0, hq => cases hq; exact hAB
    | 1, hq => cases hq; exact hAI
    | 2, hq => cases hq; exact hAZ
    | 3, hq => cases hq; exact hAO
    | 4, hq => cases hq; exact hAJ
    | 5, hq => cases hq; exact hAD
    | k + 6, hq => cases hq
  · obtain ⟨h26, h7⟩ := lw_x7 q hq
    have he := (had _ h26).1
    refine vk_R.of (A := args) (hts _ (lw_sr q hq)) ?_
    rcases h7 with h7 | h7
    · rw [← h7]; exact he
    · exact va_eqR (hfl _ h7) he
  · refine ⟨va_Zof (hts _ (lw_w 774 (by decide +kernel))) (hts _ (lw_w 98 (by decide +kernel))) (va_eqt (hfl _ (by decide +kernel))) hA, va_Zqof (hts _ (lw_w 790 (by decide +kernel))) (hts _ (lw_w 100 (by decide +kernel))) (hfl _ (by decide +kernel)) hA, vx_Zqof (hts _ (lw_w 680 (by decide +kernel))) (hts _ (lw_w 94 (by decide +kernel))) (hfl _ (by decide +kernel)) hA, vx_Zqof (hts _ (lw_w 682 (by decide +kernel))) (hts _ (lw_w 94 (by decide +kernel))) (hfl _ (by decide +kernel)) hA, fun q hq => va_Nc.of (hfl _ (lw_x8 q hq)), va_AO.of (hts _ (lw_w 325 (w := .arrayOver (.object "BusBridge$Situation")) (by decide +kernel))), fun c hc => va_tabs rfl rfl (hts _ (lw_xs c hc)), fun x hx => va_tabs rfl rfl (hts _ (lw_ds x hx))⟩
