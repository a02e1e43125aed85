/-! THROWING: bz_KX, of methods that throw; a throw; calls of what throws; what is caught -/
def bz_nm : List String := ["java/lang/RuntimeException", "java/lang/Exception"]
def bz_XC (E : bz_E) (L : List Nat) (g : Nat → va_E) (sz : Nat) (X : String) : String → State → State → Prop := fun X' st t => X' = X ∧ sz ≤ t.heap.size ∧ va_P E.1 bz_Cl (va_pl L g) t.heap ∧ ∀ q : Nat, q < st.heap.size → q ∉ L → t.heap[q]? = st.heap[q]?
def bz_KX (l : Launch) (E : bz_E) (M : bz_M) (d : Nat) (av : List Value) (L : List Nat) (g : Nat → va_E) (X : String) : Prop :=
  ∀ sz : Nat, vx_Met l M.1 (bz_ws M) (bz_R d 1 6) (bz_Pc E av L g sz) (fun _ _ _ _ => False) (bz_XC E L g sz X) 1 6 (fun q => q ∈ L ∨ sz ≤ q)
def bz_Fx (E : bz_E) (L : List Nat) (g : Nat → va_E) (sz : Nat) (X : String) : bz_F := fun below args s => vx_MQ below (fun _ _ _ _ => False) (bz_XC E L g sz X) args s 1 6 (fun q => q ∈ L ∨ sz ≤ q)
theorem bz_KX.of {l : Launch} {E : bz_E} {M : bz_M} {d : Nat} {av : List Value} {L : List Nat} {g : Nat → va_E} {X : String} (hp : plainName M.1.cls = true) (hn : (lg_sl av).length ≤ M.2.2.1)
    (h : ∀ sz : Nat, bz_G l E M (bz_R d 1 6) L sz (bz_Fx E L g sz X) sz 0 0 L g 0 (lv_args 0 av) []) (ht : bz_hh M = some [] := by decide +kernel) : bz_KX l E M d av L g X := by
  intro sz
  refine vx_ofW (cc := M.2.1) (maxL := M.2.2.1) (ret := M.2.2.2) (ws' := bz_tbl) hp rfl ?_
  intro p e s m args below meth c s1 B hml _ hv
  obtain ⟨rfl, hsz, hP, hK, hD, hN, hZ⟩ := hv
  have hts := atoms_spec (ws := bz_ws M) B.pre
  have hl := lv_entry av hn
  rw [lg_entry_eq]
  refine h sz p e s m _ below meth c s.heap [] _ ⟨B.exec, B.bytes, B.returns, hml, findClass_of_methodNamed B.named, fun w hw => hts w (List.mem_cons_of_mem _ hw), hK, B.notSynchronized, (name_of_methodNamed B.named B.method).1, hsz, hN, hZ, fun t h => bz_tb0 hts (ht.symm.trans h) B⟩ hsz hP (bz_plA hD (fun a ha => Or.inl ha)) va_S.rf ⟨hl.1, hl.2.1, fun i v hv => hl.2.2 (i, v) (bz_mem hv)⟩
/-- the words of a throw -/
def bz_tx (ic : Nat) (X : String) : Prop := (∀ w ∈ (vx_atS RX8 ic X bz_nm).filter goodWord, w ∈ bz_tbl) ∧ (∀ w ∈ (vx_atS RX8 ic X bz_nm).filter (fun w => !goodWord w), w = .castable X X ∨ w ∈ bz_ds.map Cond.declares) ∧ (vx_atS RX8 ic X bz_nm).all vx_ot = true ∧ Bundle.fit X = true ∧ X ∈ bz_xs ∧ Cond.initialized X ∈ bz_tbl
def x_IAE : String := "java/lang/IllegalArgumentException"
set_option maxRecDepth 20000 in
theorem tx_IAE : bz_tx 75 x_IAE := ⟨bz_ins _ [94, 675, 684, 688, 691, 693, 676, 677, 115, 116, 678, 683, 689, 709, 665, 710, 667, 711, 669, 679, 681, 671, 705, 706, 708, 671, 696, 697, 698, 699, 699, 700, 701, 702, 702, 703, 704, 705, 695, 654, 662, 663, 664, 666, 668, 670, 674, 673, 672] (by decide +kernel) (by decide +kernel), by decide +kernel, by decide +kernel, by decide +kernel, by decide +kernel, bz_mw 97 (by decide +kernel)⟩
theorem xk_IAE : Cond.classLink RX8 71 x_IAE ∈ bz_tbl := bz_mw 653 (by decide +kernel)
def x_IOE : String := "java/lang/IndexOutOfBoundsException"
set_option maxRecDepth 20000 in
theorem tx_IOE : bz_tx 160 x_IOE := ⟨bz_ins _ [94, 675, 684, 688, 691, 693, 676, 677, 115, 116, 678, 683, 689, 709, 665, 710, 667, 711, 669, 679, 681, 671, 705, 706, 708, 671, 901, 902, 903, 699, 699, 700, 701, 702, 702, 703, 704, 705, 900, 891, 893, 687, 894, 895, 896, 897, 674, 673, 898] (by decide +kernel) (by decide +kernel), by decide +kernel, by decide +kernel, by decide +kernel, by decide +kernel, bz_mw 102 (by decide +kernel)⟩
theorem xk_IOE : Cond.classLink RX8 156 x_IOE ∈ bz_tbl := bz_mw 890 (by decide +kernel)
def x_ISE : String := "java/lang/IllegalStateException"
set_option maxRecDepth 20000 in
theorem tx_ISE : bz_tx 186 x_ISE := ⟨bz_ins _ [94, 675, 684, 688, 691, 693, 676, 677, 115, 116, 678, 683, 689, 709, 665, 710, 667, 711, 669, 679, 681, 671, 705, 706, 708, 671, 1035, 1036, 1037, 699, 699, 700, 701, 702, 702, 703, 704, 705, 1034, 1025, 1027, 686, 1028, 1029, 1030, 1031, 674, 673, 1032] (by decide +kernel) (by decide +kernel), by decide +kernel, by decide +kernel, by decide +kernel, by decide +kernel, bz_mw 105 (by decide +kernel)⟩
theorem xk_ISE : Cond.classLink RX8 182 x_ISE ∈ bz_tbl := bz_mw 1024 (by decide +kernel)
