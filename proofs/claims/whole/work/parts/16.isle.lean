/-! an island: leaving, an item that comes, copies -/
theorem due_le {T : ST} (hB : Bd T) : dueN T ≤ 2970 := by
  have h1 := soilAll_le hB
  have h2 := sumN_le (f := oweN T) (c := 198) (fun i => by have := hB.2.2.2.1 i; have := hB.2.2.2.2.1 i; unfold oweN worN; split <;> omega) (T 12 0)
  have h0 := hB.1
  unfold dueN
  omega
theorem there_le (T : ST) : thereN T ≤ 1 := by unfold thereN; split <;> omega
theorem Bd.take {T : ST} (hB : Bd T) : Bd (takeT T) := by
  have hs := soilAll_le hB
  obtain ⟨b0, b1, b2_, b3, b4, b5, b6, b7, b8, b9, b10, b11, b12, b13, b14, b15, b16, b17, b18, b19⟩ := hB
  refine ⟨b0, b1, b2_, b3, b4, b5, b2_, b3, b8, b9, b10, b11, b12, b13, b14, b15, hs, b17, b18, fun f i hf hi => ?_⟩
  have hi : T 12 0 ≤ i := hi
  unfold takeT
  by_cases h5 : f = 5
  · rw [if_pos h5]; exact b19 1 i (by decide) hi
  · rw [if_neg h5]
    by_cases h6 : f = 6
    · rw [if_pos h6]; exact b19 2 i (by decide) hi
    · rw [if_neg h6, if_neg (by omega)]; exact b19 f i hf hi
theorem Bd.add {T : ST} (hB : Bd T) {d s g m : Nat} (hd : d ≤ 9999) (hs : s ≤ 9999) (hg : g ≤ 9999) (hm : m ≤ 9999) : Bd (addT T d s g m) :=
  (((((hB.ps5 (Nat.mod_lt _ (by decide))).ps6 (by omega)).pu11 hd).pu11 hs).pu11 hg).pu11 hm
def leavT (T : ST) : ST := takeT (tu (addT T (T 12 3) (thereN T) (cntN 12 (bitN (mis T) (T 12 0))) (dueN T)) 10 (thereN T) (min 9999 (T 10 (thereN T) + dueN T)))
theorem Bd.leav {T : ST} (hB : Bd T) : Bd (leavT T) := by
  have h1 := due_le hB; have h2 := there_le T; have h3 := cntN_le (bitN (mis T) (T 12 0)) 12
  have h4 := hB.2.2.2.2.2.2.2.2.2.2.2.2.2.2.2.1
  exact ((hB.add h4 (by omega) (by omega) (by omega)).pu10 (by omega)).take
theorem addT_ne (T : ST) (d s g m : Nat) {f : Nat} (h : f ≠ 11) (h2 : f ≠ 12) (i : Nat) : addT T d s g m f i = T f i := by
  unfold addT
  rw [tu_ne1 _ _ _ _ h, tu_ne1 _ _ _ _ h, tu_ne1 _ _ _ _ h, tu_ne1 _ _ _ _ h, tu_ne1 _ _ _ _ h2, tu_ne1 _ _ _ _ h2]
theorem c_leave {E : EV} {a : Nat} {T : ST} {sd : Int32} {G : AH} (hI : Isl G a T sd) (hB : Bd T) : Cd E 5 kX1_leave [.ref a] G (fun G1 => Isl G1 a (leavT T) sd ∧ Fr G G1 a) := by
  obtain ⟨i0, i1, i2, i3, i4, i5, i6, i7, i8, i9, i10, i11, i12, i13⟩ := id hI
  obtain ⟨b0, b1, b2_, b3, b4, b5, b6, b7, b8, b9, b10, b11, b12, b13, b14, b15, b16, b17, b18, b19⟩ := id hB
  have hth := there_le T; have hdu := due_le hB; have hb11 := b11 (thereN T)
  refine Ct.intro rfl (by decide) [.ref a, .float 0, .float 0] (by simp [Value.category]) (Nat.le_of_ble_eq_true rfl) rfl ?_
  refine w_aload_n dX1_leave_0 rfl ?_
  refine wV0u dX1_leave_1 lk_X1_152 rfl (by first | assumption | exact gs_at | (rw [gs_ne (by omega)]; (first | assumption | exact gs_at | (rw [gs_ne (by omega)]; (first | assumption | exact gs_at | (rw [gs_ne (by omega)]; (first | assumption | exact gs_at | (rw [gs_ne (by omega)]; (first | assumption | exact gs_at))))))))) rfl rfl (c_there hI hB) (Nat.le_of_ble_eq_true rfl) (Nat.le_of_ble_eq_true rfl) (Nat.le_of_ble_eq_true rfl) (Nat.le_of_ble_eq_true rfl) ?_
  refine w_istore_1 dX1_leave_4 rfl ?_
  refine w_aload_n dX1_leave_5 rfl ?_
  refine wV0u dX1_leave_6 lk_X1_155 rfl (by first | assumption | exact gs_at | (rw [gs_ne (by omega)]; (first | assumption | exact gs_at | (rw [gs_ne (by omega)]; (first | assumption | exact gs_at | (rw [gs_ne (by omega)]; (first | assumption | exact gs_at | (rw [gs_ne (by omega)]; (first | assumption | exact gs_at))))))))) rfl rfl (c_owedMore hI hB) (Nat.le_of_ble_eq_true rfl) (Nat.le_of_ble_eq_true rfl) (Nat.le_of_ble_eq_true rfl) (Nat.le_of_ble_eq_true rfl) ?_
  refine w_istore_2 dX1_leave_9 rfl ?_
  refine w_aload_n dX1_leave_10 rfl ?_
  refine w_getf dX1_leave_11 fl_X1_48 (by first | assumption | exact gs_at | (rw [gs_ne (by omega)]; (first | assumption | exact gs_at | (rw [gs_ne (by omega)]; (first | assumption | exact gs_at | (rw [gs_ne (by omega)]; (first | assumption | exact gs_at | (rw [gs_ne (by omega)]; (first | assumption | exact gs_at))))))))) rfl ?_
  refine w_aload_n dX1_leave_14 rfl ?_
  refine w_getf dX1_leave_15 fl_X1_62 (by first | assumption | exact gs_at | (rw [gs_ne (by omega)]; (first | assumption | exact gs_at | (rw [gs_ne (by omega)]; (first | assumption | exact gs_at | (rw [gs_ne (by omega)]; (first | assumption | exact gs_at | (rw [gs_ne (by omega)]; (first | assumption | exact gs_at))))))))) rfl ?_
  refine w_iload_n dX1_leave_18 rfl ?_
  refine w_aload_n dX1_leave_19 rfl ?_
  refine wV0u dX1_leave_20 lk_X1_158 rfl (by first | assumption | exact gs_at | (rw [gs_ne (by omega)]; (first | assumption | exact gs_at | (rw [gs_ne (by omega)]; (first | assumption | exact gs_at | (rw [gs_ne (by omega)]; (first | assumption | exact gs_at | (rw [gs_ne (by omega)]; (first | assumption | exact gs_at))))))))) rfl rfl (c_missingOnes hI hB) (Nat.le_of_ble_eq_true rfl) (Nat.le_of_ble_eq_true rfl) (Nat.le_of_ble_eq_true rfl) (Nat.le_of_ble_eq_true rfl) ?_
  refine wJ1u dX1_leave_23 lk_X1_161 rfl (c_bitCount (bitN_12 _ b0)) (Nat.le_of_ble_eq_true rfl) (Nat.le_of_ble_eq_true rfl) (Nat.le_of_ble_eq_true rfl) (Nat.le_of_ble_eq_true rfl) ?_
  refine w_iload_n dX1_leave_26 rfl ?_
  refine wV4d dX1_leave_27 lk_X1_166 rfl (by first | assumption | exact gs_at | (rw [gs_ne (by omega)]; (first | assumption | exact gs_at | (rw [gs_ne (by omega)]; (first | assumption | exact gs_at | (rw [gs_ne (by omega)]; (first | assumption | exact gs_at | (rw [gs_ne (by omega)]; (first | assumption | exact gs_at))))))))) rfl rfl (c_add (d := T 12 3) (s := thereN T) hI hB) (Nat.le_of_ble_eq_true rfl) (Nat.le_of_ble_eq_true rfl) (Nat.le_of_ble_eq_true rfl) (Nat.le_of_ble_eq_true rfl) (fun G1 h_27 => ?_)
  obtain ⟨hI1, hF1⟩ := h_27
  obtain ⟨i0, i1, i2, i3, i4, i5, i6, i7, i8, i9, i10, i11, i12, i13⟩ := id hI1
  simp only [isO, addT_ne _ _ _ _ _ (show 10 ≠ 11 by decide) (show 10 ≠ 12 by decide)] at i0 i11
  refine w_aload_n dX1_leave_30 rfl ?_
  refine w_getf dX1_leave_31 fl_X1_42 (by first | assumption | exact gs_at | (rw [gs_ne (by omega)]; (first | assumption | exact gs_at | (rw [gs_ne (by omega)]; (first | assumption | exact gs_at | (rw [gs_ne (by omega)]; (first | assumption | exact gs_at | (rw [gs_ne (by omega)]; (first | assumption | exact gs_at))))))))) rfl ?_
  refine w_iload_n dX1_leave_34 rfl ?_
  refine w_sipush (v := nI 9999) dX1_leave_35 (by decide) ?_
  refine w_aload_n dX1_leave_38 rfl ?_
  refine w_getf dX1_leave_39 fl_X1_42 (by first | assumption | exact gs_at | (rw [gs_ne (by omega)]; (first | assumption | exact gs_at | (rw [gs_ne (by omega)]; (first | assumption | exact gs_at | (rw [gs_ne (by omega)]; (first | assumption | exact gs_at | (rw [gs_ne (by omega)]; (first | assumption | exact gs_at))))))))) rfl ?_
  refine w_iload_n dX1_leave_42 rfl ?_
  refine wN2u dX1_leave_43 lk_X1_83 rfl (c_atN (by first | assumption | exact gs_at | (rw [gs_ne (by omega)]; (first | assumption | exact gs_at | (rw [gs_ne (by omega)]; (first | assumption | exact gs_at | (rw [gs_ne (by omega)]; (first | assumption | exact gs_at | (rw [gs_ne (by omega)]; (first | assumption | exact gs_at))))))))) (by omega) (by decide)) (Nat.le_of_ble_eq_true rfl) (Nat.le_of_ble_eq_true rfl) (Nat.le_of_ble_eq_true rfl) (Nat.le_of_ble_eq_true rfl) ?_
  refine w_iload_n dX1_leave_46 rfl ?_
  first | refine w_iaddN dX1_leave_47 ?_ | refine w_iadd dX1_leave_47 ?_
  refine wJ2u dX1_leave_48 lk_X1_136 rfl (c_min (by omega) (by omega)) (Nat.le_of_ble_eq_true rfl) (Nat.le_of_ble_eq_true rfl) (Nat.le_of_ble_eq_true rfl) (Nat.le_of_ble_eq_true rfl) ?_
  refine wN3d dX1_leave_51 lk_X1_79 rfl (c_pu10 hI1 (by omega)) (Nat.le_of_ble_eq_true rfl) (Nat.le_of_ble_eq_true rfl) (Nat.le_of_ble_eq_true rfl) (Nat.le_of_ble_eq_true rfl) (fun G2 h_51 => ?_)
  obtain ⟨hI2, hF2⟩ := h_51
  obtain ⟨i0, i1, i2, i3, i4, i5, i6, i7, i8, i9, i10, i11, i12, i13⟩ := id hI2
  refine w_aload_n dX1_leave_54 rfl ?_
  refine wV0d dX1_leave_55 lk_X1_170 rfl (by first | assumption | exact gs_at | (rw [gs_ne (by omega)]; (first | assumption | exact gs_at | (rw [gs_ne (by omega)]; (first | assumption | exact gs_at | (rw [gs_ne (by omega)]; (first | assumption | exact gs_at | (rw [gs_ne (by omega)]; (first | assumption | exact gs_at))))))))) rfl rfl (c_takeInventory hI2 ((hB.add (by omega) (by omega) (by have := cntN_le (bitN (mis T) (T 12 0)) 12; omega) (by omega)).pu10 (by omega))) (Nat.le_of_ble_eq_true rfl) (Nat.le_of_ble_eq_true rfl) (Nat.le_of_ble_eq_true rfl) (Nat.le_of_ble_eq_true rfl) (fun G3 h_55 => ?_)
  obtain ⟨hI3, hF3⟩ := h_55
  refine w_vret dX1_leave_58 rfl (Nat.le_of_ble_eq_true rfl) (Nat.le_of_ble_eq_true rfl) ?_
  exact ⟨rfl, hI3, hF1.tr (hF2.tr hF3)⟩
def itemT (T : ST) (v h o r : Nat) : ST := tu (tu (tu (tu (tu (tu (tu (tu T 3 (T 12 0) v) 0 (T 12 0) h) 4 (T 12 0) o) 1 (T 12 0) r) 2 (T 12 0) 0) 5 (T 12 0) r) 6 (T 12 0) 0) 12 0 (T 12 0 + 1)
theorem c_addItem {E : EV} {a : Nat} {T : ST} {sd : Int32} {G : AH} {v h o r : Nat} (hI : Isl G a T sd) (hn : T 12 0 < 12) : Cd E 2 kX1_addItem [.ref a, .int (nI v), .int (nI h), .int (nI o), .int (nI r)] G (fun G1 => Isl G1 a (itemT T v h o r) sd ∧ Fr G G1 a) := by
  obtain ⟨i0, i1, i2, i3, i4, i5, i6, i7, i8, i9, i10, i11, i12, i13⟩ := id hI
  refine Ct.intro rfl (by decide) [.ref a, .int (nI v), .int (nI h), .int (nI o), .int (nI r)] (by simp [Value.category]) (Nat.le_of_ble_eq_true rfl) rfl ?_
  refine w_aload_n dX1_addItem_0 rfl ?_
  refine w_getf dX1_addItem_1 fl_X1_21 (by first | assumption | exact gs_at | (rw [gs_ne (by omega)]; (first | assumption | exact gs_at | (rw [gs_ne (by omega)]; (first | assumption | exact gs_at | (rw [gs_ne (by omega)]; (first | assumption | exact gs_at | (rw [gs_ne (by omega)]; (first | assumption | exact gs_at))))))))) rfl ?_
  refine w_aload_n dX1_addItem_4 rfl ?_
  refine w_getf dX1_addItem_5 fl_X1_52 (by first | assumption | exact gs_at | (rw [gs_ne (by omega)]; (first | assumption | exact gs_at | (rw [gs_ne (by omega)]; (first | assumption | exact gs_at | (rw [gs_ne (by omega)]; (first | assumption | exact gs_at | (rw [gs_ne (by omega)]; (first | assumption | exact gs_at))))))))) rfl ?_
  refine w_iload_n dX1_addItem_8 rfl ?_
  refine wN3d dX1_addItem_9 lk_X1_79 rfl (c_pu3 (v := v) hI (by omega)) (Nat.le_of_ble_eq_true rfl) (Nat.le_of_ble_eq_true rfl) (Nat.le_of_ble_eq_true rfl) (Nat.le_of_ble_eq_true rfl) (fun G1 h_9 => ?_)
  obtain ⟨hI1, hF1⟩ := h_9
  obtain ⟨i0, i1, i2, i3, i4, i5, i6, i7, i8, i9, i10, i11, i12, i13⟩ := id hI1
  simp only [isO, tu_ne1 _ _ _ _ (show 12 ≠ 3 by decide)] at i0
  refine w_aload_n dX1_addItem_12 rfl ?_
  refine w_getf dX1_addItem_13 fl_X1_9 (by first | assumption | exact gs_at | (rw [gs_ne (by omega)]; (first | assumption | exact gs_at | (rw [gs_ne (by omega)]; (first | assumption | exact gs_at | (rw [gs_ne (by omega)]; (first | assumption | exact gs_at | (rw [gs_ne (by omega)]; (first | assumption | exact gs_at))))))))) rfl ?_
  refine w_aload_n dX1_addItem_16 rfl ?_
  refine w_getf dX1_addItem_17 fl_X1_52 (by first | assumption | exact gs_at | (rw [gs_ne (by omega)]; (first | assumption | exact gs_at | (rw [gs_ne (by omega)]; (first | assumption | exact gs_at | (rw [gs_ne (by omega)]; (first | assumption | exact gs_at | (rw [gs_ne (by omega)]; (first | assumption | exact gs_at))))))))) rfl ?_
  refine w_iload_n dX1_addItem_20 rfl ?_
  refine wN3d dX1_addItem_21 lk_X1_79 rfl (c_pu0 (v := h) hI1 (by omega)) (Nat.le_of_ble_eq_true rfl) (Nat.le_of_ble_eq_true rfl) (Nat.le_of_ble_eq_true rfl) (Nat.le_of_ble_eq_true rfl) (fun G2 h_21 => ?_)
  obtain ⟨hI2, hF2⟩ := h_21
  obtain ⟨i0, i1, i2, i3, i4, i5, i6, i7, i8, i9, i10, i11, i12, i13⟩ := id hI2
  simp only [isO, tu_ne1 _ _ _ _ (show 12 ≠ 0 by decide), tu_ne1 _ _ _ _ (show 12 ≠ 3 by decide)] at i0
  refine w_aload_n dX1_addItem_24 rfl ?_
  refine w_getf dX1_addItem_25 fl_X1_24 (by first | assumption | exact gs_at | (rw [gs_ne (by omega)]; (first | assumption | exact gs_at | (rw [gs_ne (by omega)]; (first | assumption | exact gs_at | (rw [gs_ne (by omega)]; (first | assumption | exact gs_at | (rw [gs_ne (by omega)]; (first | assumption | exact gs_at))))))))) rfl ?_
  refine w_aload_n dX1_addItem_28 rfl ?_
  refine w_getf dX1_addItem_29 fl_X1_52 (by first | assumption | exact gs_at | (rw [gs_ne (by omega)]; (first | assumption | exact gs_at | (rw [gs_ne (by omega)]; (first | assumption | exact gs_at | (rw [gs_ne (by omega)]; (first | assumption | exact gs_at | (rw [gs_ne (by omega)]; (first | assumption | exact gs_at))))))))) rfl ?_
  refine w_iload_n dX1_addItem_32 rfl ?_
  refine wN3d dX1_addItem_33 lk_X1_79 rfl (c_pu4 (v := o) hI2 (by omega)) (Nat.le_of_ble_eq_true rfl) (Nat.le_of_ble_eq_true rfl) (Nat.le_of_ble_eq_true rfl) (Nat.le_of_ble_eq_true rfl) (fun G3 h_33 => ?_)
  obtain ⟨hI3, hF3⟩ := h_33
  obtain ⟨i0, i1, i2, i3, i4, i5, i6, i7, i8, i9, i10, i11, i12, i13⟩ := id hI3
  simp only [isO, tu_ne1 _ _ _ _ (show 12 ≠ 0 by decide), tu_ne1 _ _ _ _ (show 12 ≠ 3 by decide), tu_ne1 _ _ _ _ (show 12 ≠ 4 by decide)] at i0
  refine w_aload_n dX1_addItem_36 rfl ?_
  refine w_getf dX1_addItem_37 fl_X1_15 (by first | assumption | exact gs_at | (rw [gs_ne (by omega)]; (first | assumption | exact gs_at | (rw [gs_ne (by omega)]; (first | assumption | exact gs_at | (rw [gs_ne (by omega)]; (first | assumption | exact gs_at | (rw [gs_ne (by omega)]; (first | assumption | exact gs_at))))))))) rfl ?_
  refine w_aload_n dX1_addItem_40 rfl ?_
  refine w_getf dX1_addItem_41 fl_X1_52 (by first | assumption | exact gs_at | (rw [gs_ne (by omega)]; (first | assumption | exact gs_at | (rw [gs_ne (by omega)]; (first | assumption | exact gs_at | (rw [gs_ne (by omega)]; (first | assumption | exact gs_at | (rw [gs_ne (by omega)]; (first | assumption | exact gs_at))))))))) rfl ?_
  refine w_iload dX1_addItem_44 rfl ?_
  refine wN3d dX1_addItem_46 lk_X1_79 rfl (c_pu1 (v := r) hI3 (by omega)) (Nat.le_of_ble_eq_true rfl) (Nat.le_of_ble_eq_true rfl) (Nat.le_of_ble_eq_true rfl) (Nat.le_of_ble_eq_true rfl) (fun G4 h_46 => ?_)
  obtain ⟨hI4, hF4⟩ := h_46
  obtain ⟨i0, i1, i2, i3, i4, i5, i6, i7, i8, i9, i10, i11, i12, i13⟩ := id hI4
  simp only [isO, tu_ne1 _ _ _ _ (show 12 ≠ 0 by decide), tu_ne1 _ _ _ _ (show 12 ≠ 1 by decide), tu_ne1 _ _ _ _ (show 12 ≠ 3 by decide), tu_ne1 _ _ _ _ (show 12 ≠ 4 by decide)] at i0
  refine w_aload_n dX1_addItem_49 rfl ?_
  refine w_getf dX1_addItem_50 fl_X1_18 (by first | assumption | exact gs_at | (rw [gs_ne (by omega)]; (first | assumption | exact gs_at | (rw [gs_ne (by omega)]; (first | assumption | exact gs_at | (rw [gs_ne (by omega)]; (first | assumption | exact gs_at | (rw [gs_ne (by omega)]; (first | assumption | exact gs_at))))))))) rfl ?_
  refine w_aload_n dX1_addItem_53 rfl ?_
  refine w_getf dX1_addItem_54 fl_X1_52 (by first | assumption | exact gs_at | (rw [gs_ne (by omega)]; (first | assumption | exact gs_at | (rw [gs_ne (by omega)]; (first | assumption | exact gs_at | (rw [gs_ne (by omega)]; (first | assumption | exact gs_at | (rw [gs_ne (by omega)]; (first | assumption | exact gs_at))))))))) rfl ?_
  refine w_iconst (v := nI 0) dX1_addItem_57 (by decide) ?_
  refine wN3d dX1_addItem_58 lk_X1_79 rfl (c_pu2 (v := 0) hI4 (by omega)) (Nat.le_of_ble_eq_true rfl) (Nat.le_of_ble_eq_true rfl) (Nat.le_of_ble_eq_true rfl) (Nat.le_of_ble_eq_true rfl) (fun G5 h_58 => ?_)
  obtain ⟨hI5, hF5⟩ := h_58
  obtain ⟨i0, i1, i2, i3, i4, i5, i6, i7, i8, i9, i10, i11, i12, i13⟩ := id hI5
  simp only [isO, tu_ne1 _ _ _ _ (show 12 ≠ 0 by decide), tu_ne1 _ _ _ _ (show 12 ≠ 1 by decide), tu_ne1 _ _ _ _ (show 12 ≠ 2 by decide), tu_ne1 _ _ _ _ (show 12 ≠ 3 by decide), tu_ne1 _ _ _ _ (show 12 ≠ 4 by decide)] at i0
  refine w_aload_n dX1_addItem_61 rfl ?_
  refine w_getf dX1_addItem_62 fl_X1_27 (by first | assumption | exact gs_at | (rw [gs_ne (by omega)]; (first | assumption | exact gs_at | (rw [gs_ne (by omega)]; (first | assumption | exact gs_at | (rw [gs_ne (by omega)]; (first | assumption | exact gs_at | (rw [gs_ne (by omega)]; (first | assumption | exact gs_at))))))))) rfl ?_
  refine w_aload_n dX1_addItem_65 rfl ?_
  refine w_getf dX1_addItem_66 fl_X1_52 (by first | assumption | exact gs_at | (rw [gs_ne (by omega)]; (first | assumption | exact gs_at | (rw [gs_ne (by omega)]; (first | assumption | exact gs_at | (rw [gs_ne (by omega)]; (first | assumption | exact gs_at | (rw [gs_ne (by omega)]; (first | assumption | exact gs_at))))))))) rfl ?_
  refine w_iload dX1_addItem_69 rfl ?_
  refine wN3d dX1_addItem_71 lk_X1_79 rfl (c_pu5 (v := r) hI5 (by omega)) (Nat.le_of_ble_eq_true rfl) (Nat.le_of_ble_eq_true rfl) (Nat.le_of_ble_eq_true rfl) (Nat.le_of_ble_eq_true rfl) (fun G6 h_71 => ?_)
  obtain ⟨hI6, hF6⟩ := h_71
  obtain ⟨i0, i1, i2, i3, i4, i5, i6, i7, i8, i9, i10, i11, i12, i13⟩ := id hI6
  simp only [isO, tu_ne1 _ _ _ _ (show 12 ≠ 0 by decide), tu_ne1 _ _ _ _ (show 12 ≠ 1 by decide), tu_ne1 _ _ _ _ (show 12 ≠ 2 by decide), tu_ne1 _ _ _ _ (show 12 ≠ 3 by decide), tu_ne1 _ _ _ _ (show 12 ≠ 4 by decide), tu_ne1 _ _ _ _ (show 12 ≠ 5 by decide)] at i0
  refine w_aload_n dX1_addItem_74 rfl ?_
  refine w_getf dX1_addItem_75 fl_X1_30 (by first | assumption | exact gs_at | (rw [gs_ne (by omega)]; (first | assumption | exact gs_at | (rw [gs_ne (by omega)]; (first | assumption | exact gs_at | (rw [gs_ne (by omega)]; (first | assumption | exact gs_at | (rw [gs_ne (by omega)]; (first | assumption | exact gs_at))))))))) rfl ?_
  refine w_aload_n dX1_addItem_78 rfl ?_
  refine w_getf dX1_addItem_79 fl_X1_52 (by first | assumption | exact gs_at | (rw [gs_ne (by omega)]; (first | assumption | exact gs_at | (rw [gs_ne (by omega)]; (first | assumption | exact gs_at | (rw [gs_ne (by omega)]; (first | assumption | exact gs_at | (rw [gs_ne (by omega)]; (first | assumption | exact gs_at))))))))) rfl ?_
  refine w_iconst (v := nI 0) dX1_addItem_82 (by decide) ?_
  refine wN3d dX1_addItem_83 lk_X1_79 rfl (c_pu6 (v := 0) hI6 (by omega)) (Nat.le_of_ble_eq_true rfl) (Nat.le_of_ble_eq_true rfl) (Nat.le_of_ble_eq_true rfl) (Nat.le_of_ble_eq_true rfl) (fun G7 h_83 => ?_)
  obtain ⟨hI7, hF7⟩ := h_83
  obtain ⟨i0, i1, i2, i3, i4, i5, i6, i7, i8, i9, i10, i11, i12, i13⟩ := id hI7
  simp only [isO, tu_ne1 _ _ _ _ (show 12 ≠ 0 by decide), tu_ne1 _ _ _ _ (show 12 ≠ 1 by decide), tu_ne1 _ _ _ _ (show 12 ≠ 2 by decide), tu_ne1 _ _ _ _ (show 12 ≠ 3 by decide), tu_ne1 _ _ _ _ (show 12 ≠ 4 by decide), tu_ne1 _ _ _ _ (show 12 ≠ 5 by decide), tu_ne1 _ _ _ _ (show 12 ≠ 6 by decide)] at i0
  refine w_aload_n dX1_addItem_86 rfl ?_
  refine w_dup dX1_addItem_87 rfl ?_
  refine w_getf dX1_addItem_88 fl_X1_52 (by first | assumption | exact gs_at | (rw [gs_ne (by omega)]; (first | assumption | exact gs_at | (rw [gs_ne (by omega)]; (first | assumption | exact gs_at | (rw [gs_ne (by omega)]; (first | assumption | exact gs_at | (rw [gs_ne (by omega)]; (first | assumption | exact gs_at))))))))) rfl ?_
  refine w_iconst (v := nI 1) dX1_addItem_91 (by decide) ?_
  first | refine w_iaddN dX1_addItem_92 ?_ | refine w_iadd dX1_addItem_92 ?_
  refine w_pis12 (v := T 12 0 + 1) hI7 dX1_addItem_93 fl_X1_52 (fun G8 hI8 hF8 => ?_)
  refine w_vret dX1_addItem_96 rfl (Nat.le_of_ble_eq_true rfl) (Nat.le_of_ble_eq_true rfl) ?_
  exact ⟨rfl, hI8, hF1.tr (hF2.tr (hF3.tr (hF4.tr (hF5.tr (hF6.tr (hF7.tr hF8))))))⟩
def lenR (j : Nat) : Nat := if j ≤ 7 then 12 else if j ≤ 9 then 6 else 2
/-- an island whose first n rows are those of T, and of which nothing else is known but its shape -/
def IsC (n : Nat) (G : AH) (a : Nat) (T : ST) : Prop := (∃ c0 c1 c2 c3 c4 c5 : Int32, G.1 a = some (oB 1 [.ref (a + 1), .ref (a + 2), .ref (a + 3), .ref (a + 4), .ref (a + 5), .ref (a + 6), .ref (a + 7), .ref (a + 8), .ref (a + 9), .ref (a + 10), .ref (a + 11), .ref (a + 12), .int c0, .int c1, .int c2, .int c3, .int c4, .int c5])) ∧ (∀ j, 1 ≤ j → j ≤ 11 → ∃ f : Nat → Int32, G.1 (a + j) = some (aI (lenR j) f) ∧ (j ≤ n → f = fun i => nI (T (j - 1) i))) ∧ (∃ c6 c7 : Int32, G.1 (a + 12) = some (oB 4 [.ref (a + 13), .int c6, .int c7])) ∧ ∃ f : Nat → Int32, G.1 (a + 13) = some (aI 240 f)
def IsG (G : AH) (a : Nat) : Prop := IsC 0 G a (fun _ _ => 0)
theorem IsG.to {G : AH} {a : Nat} (h : IsG G a) (T : ST) : IsC 0 G a T := ⟨h.1, fun j h1 h2 => by obtain ⟨f, e, -⟩ := h.2.1 j h1 h2; exact ⟨f, e, fun h3 => absurd h3 (by omega)⟩, h.2.2.1, h.2.2.2⟩
theorem Isl.g {G : AH} {a : Nat} {T : ST} {sd : Int32} (h : Isl G a T sd) : IsG G a := by
  obtain ⟨i0, i1, i2, i3, i4, i5, i6, i7, i8, i9, i10, i11, i12, i13⟩ := h
  refine ⟨⟨_, _, _, _, _, _, i0⟩, fun j h1 h2 => ?_, ⟨_, _, i12⟩, ⟨_, i13⟩⟩
  match j, h1, h2 with
  | 1, _, _ => exact ⟨_, i1, fun h => absurd h (by decide)⟩
  | 2, _, _ => exact ⟨_, i2, fun h => absurd h (by decide)⟩
  | 3, _, _ => exact ⟨_, i3, fun h => absurd h (by decide)⟩
  | 4, _, _ => exact ⟨_, i4, fun h => absurd h (by decide)⟩
  | 5, _, _ => exact ⟨_, i5, fun h => absurd h (by decide)⟩
  | 6, _, _ => exact ⟨_, i6, fun h => absurd h (by decide)⟩
  | 7, _, _ => exact ⟨_, i7, fun h => absurd h (by decide)⟩
  | 8, _, _ => exact ⟨_, i8, fun h => absurd h (by decide)⟩
  | 9, _, _ => exact ⟨_, i9, fun h => absurd h (by decide)⟩
  | 10, _, _ => exact ⟨_, i10, fun h => absurd h (by decide)⟩
  | 11, _, _ => exact ⟨_, i11, fun h => absurd h (by decide)⟩
  | j + 12, _, h2 => exact absurd h2 (by omega)
theorem IsC.step {n : Nat} {G : AH} {a : Nat} {T : ST} (h : IsC n G a T) (hn : n < 11) : IsC (n + 1) (gs G (a + (n + 1)) (aI (lenR (n + 1)) (fun i => nI (T n i)))) a T := by
  obtain ⟨⟨c0, c1, c2, c3, c4, c5, o0⟩, hr, ⟨c6, c7, o12⟩, f, o13⟩ := h
  refine ⟨⟨c0, c1, c2, c3, c4, c5, by rw [gs_ne (by omega)]; exact o0⟩, fun j h1 h2 => ?_, ⟨c6, c7, by rw [gs_ne (by omega)]; exact o12⟩, f, by rw [gs_ne (by omega)]; exact o13⟩
  by_cases hj : j = n + 1
  · subst hj; exact ⟨_, gs_at, fun _ => rfl⟩
  · obtain ⟨g, e, hg⟩ := hr j h1 h2
    exact ⟨g, by rw [gs_ne (by omega)]; exact e, fun h3 => hg (by omega)⟩
theorem IsC.fr {n : Nat} {G G' : AH} {a b : Nat} {T : ST} (h : IsC n G b T) (hF : Fr G G' a) (hd : b + 14 ≤ a ∨ a + 14 ≤ b) : IsC n G' b T := by
  obtain ⟨⟨c0, c1, c2, c3, c4, c5, o0⟩, hr, ⟨c6, c7, o12⟩, f, o13⟩ := h
  refine ⟨⟨c0, c1, c2, c3, c4, c5, by rw [hF.2 _ (by omega)]; exact o0⟩, fun j h1 h2 => ?_, ⟨c6, c7, by rw [hF.2 _ (by omega)]; exact o12⟩, f, by rw [hF.2 _ (by omega)]; exact o13⟩
  obtain ⟨g, e, hg⟩ := hr j h1 h2
  exact ⟨g, by rw [hF.2 _ (by omega)]; exact e, hg⟩
theorem c_copyLog {E : EV} {a b : Nat} {T : ST} {sd : Int32} {G : AH} {c6 c7 : Int32} {f : Nat → Int32} (hI : Isl G b T sd) (o12 : G.1 (a + 12) = some (oB 4 [.ref (a + 13), .int c6, .int c7])) (o13 : G.1 (a + 13) = some (aI 240 f)) (hd : a + 14 ≤ b ∨ b + 14 ≤ a) : Cn E 3 kX4_copyFrom [.ref (a + 12), .ref (b + 12)] G (gs (gs G (a + 13) (aI 240 (fun i => nI (T 11 i)))) (a + 12) (leO a T)) := by
  obtain ⟨i0, i1, i2, i3, i4, i5, i6, i7, i8, i9, i10, i11, i12, i13⟩ := id hI
  refine Ct.intro rfl (by decide) [.ref (a + 12), .ref (b + 12)] (by simp [Value.category]) (Nat.le_of_ble_eq_true rfl) rfl ?_
  refine w_aload_n dX4_copyFrom_0 rfl ?_
  refine w_getf dX4_copyFrom_1 fl_X4_9 (by first | assumption | exact gs_at | (rw [gs_ne (by omega)]; (first | assumption | exact gs_at | (rw [gs_ne (by omega)]; (first | assumption | exact gs_at | (rw [gs_ne (by omega)]; (first | assumption | exact gs_at | (rw [gs_ne (by omega)]; (first | assumption | exact gs_at))))))))) rfl ?_
  refine w_aload_n dX4_copyFrom_4 rfl ?_
  refine w_getf dX4_copyFrom_5 fl_X4_9 (by first | assumption | exact gs_at | (rw [gs_ne (by omega)]; (first | assumption | exact gs_at | (rw [gs_ne (by omega)]; (first | assumption | exact gs_at | (rw [gs_ne (by omega)]; (first | assumption | exact gs_at | (rw [gs_ne (by omega)]; (first | assumption | exact gs_at))))))))) rfl ?_
  refine wN2n dX4_copyFrom_8 lk_X4_22 rfl (c_copyRow (by first | assumption | exact gs_at | (rw [gs_ne (by omega)]; (first | assumption | exact gs_at | (rw [gs_ne (by omega)]; (first | assumption | exact gs_at | (rw [gs_ne (by omega)]; (first | assumption | exact gs_at | (rw [gs_ne (by omega)]; (first | assumption | exact gs_at))))))))) (by first | assumption | exact gs_at | (rw [gs_ne (by omega)]; (first | assumption | exact gs_at | (rw [gs_ne (by omega)]; (first | assumption | exact gs_at | (rw [gs_ne (by omega)]; (first | assumption | exact gs_at | (rw [gs_ne (by omega)]; (first | assumption | exact gs_at))))))))) (by decide)) (Nat.le_of_ble_eq_true rfl) (Nat.le_of_ble_eq_true rfl) (Nat.le_of_ble_eq_true rfl) (Nat.le_of_ble_eq_true rfl) ?_
  refine w_aload_n dX4_copyFrom_11 rfl ?_
  refine w_aload_n dX4_copyFrom_12 rfl ?_
  refine w_getf dX4_copyFrom_13 fl_X4_15 (by first | assumption | exact gs_at | (rw [gs_ne (by omega)]; (first | assumption | exact gs_at | (rw [gs_ne (by omega)]; (first | assumption | exact gs_at | (rw [gs_ne (by omega)]; (first | assumption | exact gs_at | (rw [gs_ne (by omega)]; (first | assumption | exact gs_at))))))))) rfl ?_
  refine w_putf dX4_copyFrom_16 fl_X4_15 (by first | assumption | exact gs_at | (rw [gs_ne (by omega)]; (first | assumption | exact gs_at | (rw [gs_ne (by omega)]; (first | assumption | exact gs_at | (rw [gs_ne (by omega)]; (first | assumption | exact gs_at | (rw [gs_ne (by omega)]; (first | assumption | exact gs_at))))))))) (by simp) rfl rfl ?_
  refine w_aload_n dX4_copyFrom_19 rfl ?_
  refine w_aload_n dX4_copyFrom_20 rfl ?_
  refine w_getf dX4_copyFrom_21 fl_X4_19 (by first | assumption | exact gs_at | (rw [gs_ne (by omega)]; (first | assumption | exact gs_at | (rw [gs_ne (by omega)]; (first | assumption | exact gs_at | (rw [gs_ne (by omega)]; (first | assumption | exact gs_at | (rw [gs_ne (by omega)]; (first | assumption | exact gs_at))))))))) rfl ?_
  refine w_putf dX4_copyFrom_24 fl_X4_19 (by first | assumption | exact gs_at | (rw [gs_ne (by omega)]; (first | assumption | exact gs_at | (rw [gs_ne (by omega)]; (first | assumption | exact gs_at | (rw [gs_ne (by omega)]; (first | assumption | exact gs_at | (rw [gs_ne (by omega)]; (first | assumption | exact gs_at))))))))) (by simp) rfl rfl ?_
  refine w_vret dX4_copyFrom_27 rfl (Nat.le_of_ble_eq_true rfl) (Nat.le_of_ble_eq_true rfl) ?_
  refine ⟨rfl, ?_⟩
  rw [gs_gs]; rfl
theorem c_copyIsl {E : EV} {a b : Nat} {T : ST} {sd : Int32} {G : AH} (hC : IsG G a) (hI : Isl G b T sd) (hd : a + 14 ≤ b ∨ b + 14 ≤ a) : Cd E 4 kX1_copyFrom [.ref a, .ref b] G (fun G1 => Isl G1 a T sd ∧ Fr G G1 a) := by
  obtain ⟨i0, i1, i2, i3, i4, i5, i6, i7, i8, i9, i10, i11, i12, i13⟩ := id hI
  have hC0 := hC.to T
  obtain ⟨⟨c0, c1, c2, c3, c4, c5, o0⟩, hrows, ⟨c6, c7, o12⟩, f13, o13⟩ := id hC0
  obtain ⟨fr, hr, -⟩ := hrows 1 (by decide) (by decide)
  refine Ct.intro rfl (by decide) [.ref a, .ref b] (by simp [Value.category]) (Nat.le_of_ble_eq_true rfl) rfl ?_
  refine w_aload_n dX1_copyFrom_0 rfl ?_
  refine w_ifnonnull (tgt := 5) dX1_copyFrom_1 (by decide) ?_
  refine w_aload_n dX1_copyFrom_5 rfl ?_
  refine w_getf dX1_copyFrom_6 fl_X1_9 (by first | assumption | exact gs_at | (rw [gs_ne (by omega)]; (first | assumption | exact gs_at | (rw [gs_ne (by omega)]; (first | assumption | exact gs_at | (rw [gs_ne (by omega)]; (first | assumption | exact gs_at | (rw [gs_ne (by omega)]; (first | assumption | exact gs_at | (rw [gs_ne (by omega)]; (first | assumption | exact gs_at | (rw [gs_ne (by omega)]; (first | assumption | exact gs_at | (rw [gs_ne (by omega)]; (first | assumption | exact gs_at | (rw [gs_ne (by omega)]; (first | assumption | exact gs_at | (rw [gs_ne (by omega)]; (first | assumption | exact gs_at))))))))))))))))))) rfl ?_
  refine w_aload_n dX1_copyFrom_9 rfl ?_
  refine w_getf dX1_copyFrom_10 fl_X1_9 (by first | assumption | exact gs_at | (rw [gs_ne (by omega)]; (first | assumption | exact gs_at | (rw [gs_ne (by omega)]; (first | assumption | exact gs_at | (rw [gs_ne (by omega)]; (first | assumption | exact gs_at | (rw [gs_ne (by omega)]; (first | assumption | exact gs_at | (rw [gs_ne (by omega)]; (first | assumption | exact gs_at | (rw [gs_ne (by omega)]; (first | assumption | exact gs_at | (rw [gs_ne (by omega)]; (first | assumption | exact gs_at | (rw [gs_ne (by omega)]; (first | assumption | exact gs_at | (rw [gs_ne (by omega)]; (first | assumption | exact gs_at))))))))))))))))))) rfl ?_
  refine wN2d dX1_copyFrom_13 lk_X1_71 rfl ((c_copyRow i1 hr (by decide)).imp (P := fun Gx => IsC 1 Gx a T ∧ Fr G Gx a) (fun Gx e => by subst e; exact ⟨hC0.step (by decide), Fr.gs (by omega) (by omega)⟩)) (Nat.le_of_ble_eq_true rfl) (Nat.le_of_ble_eq_true rfl) (Nat.le_of_ble_eq_true rfl) (Nat.le_of_ble_eq_true rfl) (fun G1 h_13 => ?_)
  obtain ⟨hC1, hF1⟩ := h_13
  have hI1 := hI.fr hF1 (by omega)
  obtain ⟨i0, i1, i2, i3, i4, i5, i6, i7, i8, i9, i10, i11, i12, i13⟩ := id hI1
  obtain ⟨⟨c0, c1, c2, c3, c4, c5, o0⟩, hrows, ⟨c6, c7, o12⟩, f13, o13⟩ := id hC1
  obtain ⟨fr, hr, -⟩ := hrows 2 (by decide) (by decide)
  refine w_aload_n dX1_copyFrom_16 rfl ?_
  refine w_getf dX1_copyFrom_17 fl_X1_15 (by first | assumption | exact gs_at | (rw [gs_ne (by omega)]; (first | assumption | exact gs_at | (rw [gs_ne (by omega)]; (first | assumption | exact gs_at | (rw [gs_ne (by omega)]; (first | assumption | exact gs_at | (rw [gs_ne (by omega)]; (first | assumption | exact gs_at | (rw [gs_ne (by omega)]; (first | assumption | exact gs_at | (rw [gs_ne (by omega)]; (first | assumption | exact gs_at | (rw [gs_ne (by omega)]; (first | assumption | exact gs_at | (rw [gs_ne (by omega)]; (first | assumption | exact gs_at | (rw [gs_ne (by omega)]; (first | assumption | exact gs_at))))))))))))))))))) rfl ?_
  refine w_aload_n dX1_copyFrom_20 rfl ?_
  refine w_getf dX1_copyFrom_21 fl_X1_15 (by first | assumption | exact gs_at | (rw [gs_ne (by omega)]; (first | assumption | exact gs_at | (rw [gs_ne (by omega)]; (first | assumption | exact gs_at | (rw [gs_ne (by omega)]; (first | assumption | exact gs_at | (rw [gs_ne (by omega)]; (first | assumption | exact gs_at | (rw [gs_ne (by omega)]; (first | assumption | exact gs_at | (rw [gs_ne (by omega)]; (first | assumption | exact gs_at | (rw [gs_ne (by omega)]; (first | assumption | exact gs_at | (rw [gs_ne (by omega)]; (first | assumption | exact gs_at | (rw [gs_ne (by omega)]; (first | assumption | exact gs_at))))))))))))))))))) rfl ?_
  refine wN2d dX1_copyFrom_24 lk_X1_71 rfl ((c_copyRow i2 hr (by decide)).imp (P := fun Gx => IsC 2 Gx a T ∧ Fr G1 Gx a) (fun Gx e => by subst e; exact ⟨hC1.step (by decide), Fr.gs (by omega) (by omega)⟩)) (Nat.le_of_ble_eq_true rfl) (Nat.le_of_ble_eq_true rfl) (Nat.le_of_ble_eq_true rfl) (Nat.le_of_ble_eq_true rfl) (fun G2 h_24 => ?_)
  obtain ⟨hC2, hF2⟩ := h_24
  have hI2 := hI1.fr hF2 (by omega)
  obtain ⟨i0, i1, i2, i3, i4, i5, i6, i7, i8, i9, i10, i11, i12, i13⟩ := id hI2
  obtain ⟨⟨c0, c1, c2, c3, c4, c5, o0⟩, hrows, ⟨c6, c7, o12⟩, f13, o13⟩ := id hC2
  obtain ⟨fr, hr, -⟩ := hrows 3 (by decide) (by decide)
  refine w_aload_n dX1_copyFrom_27 rfl ?_
  refine w_getf dX1_copyFrom_28 fl_X1_18 (by first | assumption | exact gs_at | (rw [gs_ne (by omega)]; (first | assumption | exact gs_at | (rw [gs_ne (by omega)]; (first | assumption | exact gs_at | (rw [gs_ne (by omega)]; (first | assumption | exact gs_at | (rw [gs_ne (by omega)]; (first | assumption | exact gs_at | (rw [gs_ne (by omega)]; (first | assumption | exact gs_at | (rw [gs_ne (by omega)]; (first | assumption | exact gs_at | (rw [gs_ne (by omega)]; (first | assumption | exact gs_at | (rw [gs_ne (by omega)]; (first | assumption | exact gs_at | (rw [gs_ne (by omega)]; (first | assumption | exact gs_at))))))))))))))))))) rfl ?_
  refine w_aload_n dX1_copyFrom_31 rfl ?_
  refine w_getf dX1_copyFrom_32 fl_X1_18 (by first | assumption | exact gs_at | (rw [gs_ne (by omega)]; (first | assumption | exact gs_at | (rw [gs_ne (by omega)]; (first | assumption | exact gs_at | (rw [gs_ne (by omega)]; (first | assumption | exact gs_at | (rw [gs_ne (by omega)]; (first | assumption | exact gs_at | (rw [gs_ne (by omega)]; (first | assumption | exact gs_at | (rw [gs_ne (by omega)]; (first | assumption | exact gs_at | (rw [gs_ne (by omega)]; (first | assumption | exact gs_at | (rw [gs_ne (by omega)]; (first | assumption | exact gs_at | (rw [gs_ne (by omega)]; (first | assumption | exact gs_at))))))))))))))))))) rfl ?_
  refine wN2d dX1_copyFrom_35 lk_X1_71 rfl ((c_copyRow i3 hr (by decide)).imp (P := fun Gx => IsC 3 Gx a T ∧ Fr G2 Gx a) (fun Gx e => by subst e; exact ⟨hC2.step (by decide), Fr.gs (by omega) (by omega)⟩)) (Nat.le_of_ble_eq_true rfl) (Nat.le_of_ble_eq_true rfl) (Nat.le_of_ble_eq_true rfl) (Nat.le_of_ble_eq_true rfl) (fun G3 h_35 => ?_)
  obtain ⟨hC3, hF3⟩ := h_35
  have hI3 := hI2.fr hF3 (by omega)
  obtain ⟨i0, i1, i2, i3, i4, i5, i6, i7, i8, i9, i10, i11, i12, i13⟩ := id hI3
  obtain ⟨⟨c0, c1, c2, c3, c4, c5, o0⟩, hrows, ⟨c6, c7, o12⟩, f13, o13⟩ := id hC3
  obtain ⟨fr, hr, -⟩ := hrows 4 (by decide) (by decide)
  refine w_aload_n dX1_copyFrom_38 rfl ?_
  refine w_getf dX1_copyFrom_39 fl_X1_21 (by first | assumption | exact gs_at | (rw [gs_ne (by omega)]; (first | assumption | exact gs_at | (rw [gs_ne (by omega)]; (first | assumption | exact gs_at | (rw [gs_ne (by omega)]; (first | assumption | exact gs_at | (rw [gs_ne (by omega)]; (first | assumption | exact gs_at | (rw [gs_ne (by omega)]; (first | assumption | exact gs_at | (rw [gs_ne (by omega)]; (first | assumption | exact gs_at | (rw [gs_ne (by omega)]; (first | assumption | exact gs_at | (rw [gs_ne (by omega)]; (first | assumption | exact gs_at | (rw [gs_ne (by omega)]; (first | assumption | exact gs_at))))))))))))))))))) rfl ?_
  refine w_aload_n dX1_copyFrom_42 rfl ?_
  refine w_getf dX1_copyFrom_43 fl_X1_21 (by first | assumption | exact gs_at | (rw [gs_ne (by omega)]; (first | assumption | exact gs_at | (rw [gs_ne (by omega)]; (first | assumption | exact gs_at | (rw [gs_ne (by omega)]; (first | assumption | exact gs_at | (rw [gs_ne (by omega)]; (first | assumption | exact gs_at | (rw [gs_ne (by omega)]; (first | assumption | exact gs_at | (rw [gs_ne (by omega)]; (first | assumption | exact gs_at | (rw [gs_ne (by omega)]; (first | assumption | exact gs_at | (rw [gs_ne (by omega)]; (first | assumption | exact gs_at | (rw [gs_ne (by omega)]; (first | assumption | exact gs_at))))))))))))))))))) rfl ?_
  refine wN2d dX1_copyFrom_46 lk_X1_71 rfl ((c_copyRow i4 hr (by decide)).imp (P := fun Gx => IsC 4 Gx a T ∧ Fr G3 Gx a) (fun Gx e => by subst e; exact ⟨hC3.step (by decide), Fr.gs (by omega) (by omega)⟩)) (Nat.le_of_ble_eq_true rfl) (Nat.le_of_ble_eq_true rfl) (Nat.le_of_ble_eq_true rfl) (Nat.le_of_ble_eq_true rfl) (fun G4 h_46 => ?_)
  obtain ⟨hC4, hF4⟩ := h_46
  have hI4 := hI3.fr hF4 (by omega)
  obtain ⟨i0, i1, i2, i3, i4, i5, i6, i7, i8, i9, i10, i11, i12, i13⟩ := id hI4
  obtain ⟨⟨c0, c1, c2, c3, c4, c5, o0⟩, hrows, ⟨c6, c7, o12⟩, f13, o13⟩ := id hC4
  obtain ⟨fr, hr, -⟩ := hrows 5 (by decide) (by decide)
  refine w_aload_n dX1_copyFrom_49 rfl ?_
  refine w_getf dX1_copyFrom_50 fl_X1_24 (by first | assumption | exact gs_at | (rw [gs_ne (by omega)]; (first | assumption | exact gs_at | (rw [gs_ne (by omega)]; (first | assumption | exact gs_at | (rw [gs_ne (by omega)]; (first | assumption | exact gs_at | (rw [gs_ne (by omega)]; (first | assumption | exact gs_at | (rw [gs_ne (by omega)]; (first | assumption | exact gs_at | (rw [gs_ne (by omega)]; (first | assumption | exact gs_at | (rw [gs_ne (by omega)]; (first | assumption | exact gs_at | (rw [gs_ne (by omega)]; (first | assumption | exact gs_at | (rw [gs_ne (by omega)]; (first | assumption | exact gs_at))))))))))))))))))) rfl ?_
  refine w_aload_n dX1_copyFrom_53 rfl ?_
  refine w_getf dX1_copyFrom_54 fl_X1_24 (by first | assumption | exact gs_at | (rw [gs_ne (by omega)]; (first | assumption | exact gs_at | (rw [gs_ne (by omega)]; (first | assumption | exact gs_at | (rw [gs_ne (by omega)]; (first | assumption | exact gs_at | (rw [gs_ne (by omega)]; (first | assumption | exact gs_at | (rw [gs_ne (by omega)]; (first | assumption | exact gs_at | (rw [gs_ne (by omega)]; (first | assumption | exact gs_at | (rw [gs_ne (by omega)]; (first | assumption | exact gs_at | (rw [gs_ne (by omega)]; (first | assumption | exact gs_at | (rw [gs_ne (by omega)]; (first | assumption | exact gs_at))))))))))))))))))) rfl ?_
  refine wN2d dX1_copyFrom_57 lk_X1_71 rfl ((c_copyRow i5 hr (by decide)).imp (P := fun Gx => IsC 5 Gx a T ∧ Fr G4 Gx a) (fun Gx e => by subst e; exact ⟨hC4.step (by decide), Fr.gs (by omega) (by omega)⟩)) (Nat.le_of_ble_eq_true rfl) (Nat.le_of_ble_eq_true rfl) (Nat.le_of_ble_eq_true rfl) (Nat.le_of_ble_eq_true rfl) (fun G5 h_57 => ?_)
  obtain ⟨hC5, hF5⟩ := h_57
  have hI5 := hI4.fr hF5 (by omega)
  obtain ⟨i0, i1, i2, i3, i4, i5, i6, i7, i8, i9, i10, i11, i12, i13⟩ := id hI5
  obtain ⟨⟨c0, c1, c2, c3, c4, c5, o0⟩, hrows, ⟨c6, c7, o12⟩, f13, o13⟩ := id hC5
  obtain ⟨fr, hr, -⟩ := hrows 6 (by decide) (by decide)
  refine w_aload_n dX1_copyFrom_60 rfl ?_
  refine w_getf dX1_copyFrom_61 fl_X1_27 (by first | assumption | exact gs_at | (rw [gs_ne (by omega)]; (first | assumption | exact gs_at | (rw [gs_ne (by omega)]; (first | assumption | exact gs_at | (rw [gs_ne (by omega)]; (first | assumption | exact gs_at | (rw [gs_ne (by omega)]; (first | assumption | exact gs_at | (rw [gs_ne (by omega)]; (first | assumption | exact gs_at | (rw [gs_ne (by omega)]; (first | assumption | exact gs_at | (rw [gs_ne (by omega)]; (first | assumption | exact gs_at | (rw [gs_ne (by omega)]; (first | assumption | exact gs_at | (rw [gs_ne (by omega)]; (first | assumption | exact gs_at))))))))))))))))))) rfl ?_
  refine w_aload_n dX1_copyFrom_64 rfl ?_
  refine w_getf dX1_copyFrom_65 fl_X1_27 (by first | assumption | exact gs_at | (rw [gs_ne (by omega)]; (first | assumption | exact gs_at | (rw [gs_ne (by omega)]; (first | assumption | exact gs_at | (rw [gs_ne (by omega)]; (first | assumption | exact gs_at | (rw [gs_ne (by omega)]; (first | assumption | exact gs_at | (rw [gs_ne (by omega)]; (first | assumption | exact gs_at | (rw [gs_ne (by omega)]; (first | assumption | exact gs_at | (rw [gs_ne (by omega)]; (first | assumption | exact gs_at | (rw [gs_ne (by omega)]; (first | assumption | exact gs_at | (rw [gs_ne (by omega)]; (first | assumption | exact gs_at))))))))))))))))))) rfl ?_
  refine wN2d dX1_copyFrom_68 lk_X1_71 rfl ((c_copyRow i6 hr (by decide)).imp (P := fun Gx => IsC 6 Gx a T ∧ Fr G5 Gx a) (fun Gx e => by subst e; exact ⟨hC5.step (by decide), Fr.gs (by omega) (by omega)⟩)) (Nat.le_of_ble_eq_true rfl) (Nat.le_of_ble_eq_true rfl) (Nat.le_of_ble_eq_true rfl) (Nat.le_of_ble_eq_true rfl) (fun G6 h_68 => ?_)
  obtain ⟨hC6, hF6⟩ := h_68
  have hI6 := hI5.fr hF6 (by omega)
  obtain ⟨i0, i1, i2, i3, i4, i5, i6, i7, i8, i9, i10, i11, i12, i13⟩ := id hI6
  obtain ⟨⟨c0, c1, c2, c3, c4, c5, o0⟩, hrows, ⟨c6, c7, o12⟩, f13, o13⟩ := id hC6
  obtain ⟨fr, hr, -⟩ := hrows 7 (by decide) (by decide)
  refine w_aload_n dX1_copyFrom_71 rfl ?_
  refine w_getf dX1_copyFrom_72 fl_X1_30 (by first | assumption | exact gs_at | (rw [gs_ne (by omega)]; (first | assumption | exact gs_at | (rw [gs_ne (by omega)]; (first | assumption | exact gs_at | (rw [gs_ne (by omega)]; (first | assumption | exact gs_at | (rw [gs_ne (by omega)]; (first | assumption | exact gs_at | (rw [gs_ne (by omega)]; (first | assumption | exact gs_at | (rw [gs_ne (by omega)]; (first | assumption | exact gs_at | (rw [gs_ne (by omega)]; (first | assumption | exact gs_at | (rw [gs_ne (by omega)]; (first | assumption | exact gs_at | (rw [gs_ne (by omega)]; (first | assumption | exact gs_at))))))))))))))))))) rfl ?_
  refine w_aload_n dX1_copyFrom_75 rfl ?_
  refine w_getf dX1_copyFrom_76 fl_X1_30 (by first | assumption | exact gs_at | (rw [gs_ne (by omega)]; (first | assumption | exact gs_at | (rw [gs_ne (by omega)]; (first | assumption | exact gs_at | (rw [gs_ne (by omega)]; (first | assumption | exact gs_at | (rw [gs_ne (by omega)]; (first | assumption | exact gs_at | (rw [gs_ne (by omega)]; (first | assumption | exact gs_at | (rw [gs_ne (by omega)]; (first | assumption | exact gs_at | (rw [gs_ne (by omega)]; (first | assumption | exact gs_at | (rw [gs_ne (by omega)]; (first | assumption | exact gs_at | (rw [gs_ne (by omega)]; (first | assumption | exact gs_at))))))))))))))))))) rfl ?_
  refine wN2d dX1_copyFrom_79 lk_X1_71 rfl ((c_copyRow i7 hr (by decide)).imp (P := fun Gx => IsC 7 Gx a T ∧ Fr G6 Gx a) (fun Gx e => by subst e; exact ⟨hC6.step (by decide), Fr.gs (by omega) (by omega)⟩)) (Nat.le_of_ble_eq_true rfl) (Nat.le_of_ble_eq_true rfl) (Nat.le_of_ble_eq_true rfl) (Nat.le_of_ble_eq_true rfl) (fun G7 h_79 => ?_)
  obtain ⟨hC7, hF7⟩ := h_79
  have hI7 := hI6.fr hF7 (by omega)
  obtain ⟨i0, i1, i2, i3, i4, i5, i6, i7, i8, i9, i10, i11, i12, i13⟩ := id hI7
  obtain ⟨⟨c0, c1, c2, c3, c4, c5, o0⟩, hrows, ⟨c6, c7, o12⟩, f13, o13⟩ := id hC7
  obtain ⟨fr, hr, -⟩ := hrows 8 (by decide) (by decide)
  refine w_aload_n dX1_copyFrom_82 rfl ?_
  refine w_getf dX1_copyFrom_83 fl_X1_33 (by first | assumption | exact gs_at | (rw [gs_ne (by omega)]; (first | assumption | exact gs_at | (rw [gs_ne (by omega)]; (first | assumption | exact gs_at | (rw [gs_ne (by omega)]; (first | assumption | exact gs_at | (rw [gs_ne (by omega)]; (first | assumption | exact gs_at | (rw [gs_ne (by omega)]; (first | assumption | exact gs_at | (rw [gs_ne (by omega)]; (first | assumption | exact gs_at | (rw [gs_ne (by omega)]; (first | assumption | exact gs_at | (rw [gs_ne (by omega)]; (first | assumption | exact gs_at | (rw [gs_ne (by omega)]; (first | assumption | exact gs_at))))))))))))))))))) rfl ?_
  refine w_aload_n dX1_copyFrom_86 rfl ?_
  refine w_getf dX1_copyFrom_87 fl_X1_33 (by first | assumption | exact gs_at | (rw [gs_ne (by omega)]; (first | assumption | exact gs_at | (rw [gs_ne (by omega)]; (first | assumption | exact gs_at | (rw [gs_ne (by omega)]; (first | assumption | exact gs_at | (rw [gs_ne (by omega)]; (first | assumption | exact gs_at | (rw [gs_ne (by omega)]; (first | assumption | exact gs_at | (rw [gs_ne (by omega)]; (first | assumption | exact gs_at | (rw [gs_ne (by omega)]; (first | assumption | exact gs_at | (rw [gs_ne (by omega)]; (first | assumption | exact gs_at | (rw [gs_ne (by omega)]; (first | assumption | exact gs_at))))))))))))))))))) rfl ?_
  refine wN2d dX1_copyFrom_90 lk_X1_71 rfl ((c_copyRow i8 hr (by decide)).imp (P := fun Gx => IsC 8 Gx a T ∧ Fr G7 Gx a) (fun Gx e => by subst e; exact ⟨hC7.step (by decide), Fr.gs (by omega) (by omega)⟩)) (Nat.le_of_ble_eq_true rfl) (Nat.le_of_ble_eq_true rfl) (Nat.le_of_ble_eq_true rfl) (Nat.le_of_ble_eq_true rfl) (fun G8 h_90 => ?_)
  obtain ⟨hC8, hF8⟩ := h_90
  have hI8 := hI7.fr hF8 (by omega)
  obtain ⟨i0, i1, i2, i3, i4, i5, i6, i7, i8, i9, i10, i11, i12, i13⟩ := id hI8
  obtain ⟨⟨c0, c1, c2, c3, c4, c5, o0⟩, hrows, ⟨c6, c7, o12⟩, f13, o13⟩ := id hC8
  obtain ⟨fr, hr, -⟩ := hrows 9 (by decide) (by decide)
  refine w_aload_n dX1_copyFrom_93 rfl ?_
  refine w_getf dX1_copyFrom_94 fl_X1_36 (by first | assumption | exact gs_at | (rw [gs_ne (by omega)]; (first | assumption | exact gs_at | (rw [gs_ne (by omega)]; (first | assumption | exact gs_at | (rw [gs_ne (by omega)]; (first | assumption | exact gs_at | (rw [gs_ne (by omega)]; (first | assumption | exact gs_at | (rw [gs_ne (by omega)]; (first | assumption | exact gs_at | (rw [gs_ne (by omega)]; (first | assumption | exact gs_at | (rw [gs_ne (by omega)]; (first | assumption | exact gs_at | (rw [gs_ne (by omega)]; (first | assumption | exact gs_at | (rw [gs_ne (by omega)]; (first | assumption | exact gs_at))))))))))))))))))) rfl ?_
  refine w_aload_n dX1_copyFrom_97 rfl ?_
  refine w_getf dX1_copyFrom_98 fl_X1_36 (by first | assumption | exact gs_at | (rw [gs_ne (by omega)]; (first | assumption | exact gs_at | (rw [gs_ne (by omega)]; (first | assumption | exact gs_at | (rw [gs_ne (by omega)]; (first | assumption | exact gs_at | (rw [gs_ne (by omega)]; (first | assumption | exact gs_at | (rw [gs_ne (by omega)]; (first | assumption | exact gs_at | (rw [gs_ne (by omega)]; (first | assumption | exact gs_at | (rw [gs_ne (by omega)]; (first | assumption | exact gs_at | (rw [gs_ne (by omega)]; (first | assumption | exact gs_at | (rw [gs_ne (by omega)]; (first | assumption | exact gs_at))))))))))))))))))) rfl ?_
  refine wN2d dX1_copyFrom_101 lk_X1_71 rfl ((c_copyRow i9 hr (by decide)).imp (P := fun Gx => IsC 9 Gx a T ∧ Fr G8 Gx a) (fun Gx e => by subst e; exact ⟨hC8.step (by decide), Fr.gs (by omega) (by omega)⟩)) (Nat.le_of_ble_eq_true rfl) (Nat.le_of_ble_eq_true rfl) (Nat.le_of_ble_eq_true rfl) (Nat.le_of_ble_eq_true rfl) (fun G9 h_101 => ?_)
  obtain ⟨hC9, hF9⟩ := h_101
  have hI9 := hI8.fr hF9 (by omega)
  obtain ⟨i0, i1, i2, i3, i4, i5, i6, i7, i8, i9, i10, i11, i12, i13⟩ := id hI9
  obtain ⟨⟨c0, c1, c2, c3, c4, c5, o0⟩, hrows, ⟨c6, c7, o12⟩, f13, o13⟩ := id hC9
  obtain ⟨fr, hr, -⟩ := hrows 10 (by decide) (by decide)
  refine w_aload_n dX1_copyFrom_104 rfl ?_
  refine w_getf dX1_copyFrom_105 fl_X1_39 (by first | assumption | exact gs_at | (rw [gs_ne (by omega)]; (first | assumption | exact gs_at | (rw [gs_ne (by omega)]; (first | assumption | exact gs_at | (rw [gs_ne (by omega)]; (first | assumption | exact gs_at | (rw [gs_ne (by omega)]; (first | assumption | exact gs_at | (rw [gs_ne (by omega)]; (first | assumption | exact gs_at | (rw [gs_ne (by omega)]; (first | assumption | exact gs_at | (rw [gs_ne (by omega)]; (first | assumption | exact gs_at | (rw [gs_ne (by omega)]; (first | assumption | exact gs_at | (rw [gs_ne (by omega)]; (first | assumption | exact gs_at))))))))))))))))))) rfl ?_
  refine w_aload_n dX1_copyFrom_108 rfl ?_
  refine w_getf dX1_copyFrom_109 fl_X1_39 (by first | assumption | exact gs_at | (rw [gs_ne (by omega)]; (first | assumption | exact gs_at | (rw [gs_ne (by omega)]; (first | assumption | exact gs_at | (rw [gs_ne (by omega)]; (first | assumption | exact gs_at | (rw [gs_ne (by omega)]; (first | assumption | exact gs_at | (rw [gs_ne (by omega)]; (first | assumption | exact gs_at | (rw [gs_ne (by omega)]; (first | assumption | exact gs_at | (rw [gs_ne (by omega)]; (first | assumption | exact gs_at | (rw [gs_ne (by omega)]; (first | assumption | exact gs_at | (rw [gs_ne (by omega)]; (first | assumption | exact gs_at))))))))))))))))))) rfl ?_
  refine wN2d dX1_copyFrom_112 lk_X1_71 rfl ((c_copyRow i10 hr (by decide)).imp (P := fun Gx => IsC 10 Gx a T ∧ Fr G9 Gx a) (fun Gx e => by subst e; exact ⟨hC9.step (by decide), Fr.gs (by omega) (by omega)⟩)) (Nat.le_of_ble_eq_true rfl) (Nat.le_of_ble_eq_true rfl) (Nat.le_of_ble_eq_true rfl) (Nat.le_of_ble_eq_true rfl) (fun G10 h_112 => ?_)
  obtain ⟨hC10, hF10⟩ := h_112
  have hI10 := hI9.fr hF10 (by omega)
  obtain ⟨i0, i1, i2, i3, i4, i5, i6, i7, i8, i9, i10, i11, i12, i13⟩ := id hI10
  obtain ⟨⟨c0, c1, c2, c3, c4, c5, o0⟩, hrows, ⟨c6, c7, o12⟩, f13, o13⟩ := id hC10
  obtain ⟨fr, hr, -⟩ := hrows 11 (by decide) (by decide)
  refine w_aload_n dX1_copyFrom_115 rfl ?_
  refine w_getf dX1_copyFrom_116 fl_X1_42 (by first | assumption | exact gs_at | (rw [gs_ne (by omega)]; (first | assumption | exact gs_at | (rw [gs_ne (by omega)]; (first | assumption | exact gs_at | (rw [gs_ne (by omega)]; (first | assumption | exact gs_at | (rw [gs_ne (by omega)]; (first | assumption | exact gs_at | (rw [gs_ne (by omega)]; (first | assumption | exact gs_at | (rw [gs_ne (by omega)]; (first | assumption | exact gs_at | (rw [gs_ne (by omega)]; (first | assumption | exact gs_at | (rw [gs_ne (by omega)]; (first | assumption | exact gs_at | (rw [gs_ne (by omega)]; (first | assumption | exact gs_at))))))))))))))))))) rfl ?_
  refine w_aload_n dX1_copyFrom_119 rfl ?_
  refine w_getf dX1_copyFrom_120 fl_X1_42 (by first | assumption | exact gs_at | (rw [gs_ne (by omega)]; (first | assumption | exact gs_at | (rw [gs_ne (by omega)]; (first | assumption | exact gs_at | (rw [gs_ne (by omega)]; (first | assumption | exact gs_at | (rw [gs_ne (by omega)]; (first | assumption | exact gs_at | (rw [gs_ne (by omega)]; (first | assumption | exact gs_at | (rw [gs_ne (by omega)]; (first | assumption | exact gs_at | (rw [gs_ne (by omega)]; (first | assumption | exact gs_at | (rw [gs_ne (by omega)]; (first | assumption | exact gs_at | (rw [gs_ne (by omega)]; (first | assumption | exact gs_at))))))))))))))))))) rfl ?_
  refine wN2d dX1_copyFrom_123 lk_X1_71 rfl ((c_copyRow i11 hr (by decide)).imp (P := fun Gx => IsC 11 Gx a T ∧ Fr G10 Gx a) (fun Gx e => by subst e; exact ⟨hC10.step (by decide), Fr.gs (by omega) (by omega)⟩)) (Nat.le_of_ble_eq_true rfl) (Nat.le_of_ble_eq_true rfl) (Nat.le_of_ble_eq_true rfl) (Nat.le_of_ble_eq_true rfl) (fun G11 h_123 => ?_)
  obtain ⟨hC11, hF11⟩ := h_123
  have hI11 := hI10.fr hF11 (by omega)
  obtain ⟨i0, i1, i2, i3, i4, i5, i6, i7, i8, i9, i10, i11, i12, i13⟩ := id hI11
  obtain ⟨⟨c0, c1, c2, c3, c4, c5, o0⟩, hrows, ⟨c6, c7, o12⟩, f13, o13⟩ := id hC11
  refine w_aload_n dX1_copyFrom_126 rfl ?_
  refine w_getf dX1_copyFrom_127 fl_X1_48 (by first | assumption | exact gs_at | (rw [gs_ne (by omega)]; (first | assumption | exact gs_at | (rw [gs_ne (by omega)]; (first | assumption | exact gs_at | (rw [gs_ne (by omega)]; (first | assumption | exact gs_at | (rw [gs_ne (by omega)]; (first | assumption | exact gs_at | (rw [gs_ne (by omega)]; (first | assumption | exact gs_at | (rw [gs_ne (by omega)]; (first | assumption | exact gs_at | (rw [gs_ne (by omega)]; (first | assumption | exact gs_at | (rw [gs_ne (by omega)]; (first | assumption | exact gs_at | (rw [gs_ne (by omega)]; (first | assumption | exact gs_at))))))))))))))))))) rfl ?_
  refine w_aload_n dX1_copyFrom_130 rfl ?_
  refine w_getf dX1_copyFrom_131 fl_X1_48 (by first | assumption | exact gs_at | (rw [gs_ne (by omega)]; (first | assumption | exact gs_at | (rw [gs_ne (by omega)]; (first | assumption | exact gs_at | (rw [gs_ne (by omega)]; (first | assumption | exact gs_at | (rw [gs_ne (by omega)]; (first | assumption | exact gs_at | (rw [gs_ne (by omega)]; (first | assumption | exact gs_at | (rw [gs_ne (by omega)]; (first | assumption | exact gs_at | (rw [gs_ne (by omega)]; (first | assumption | exact gs_at | (rw [gs_ne (by omega)]; (first | assumption | exact gs_at | (rw [gs_ne (by omega)]; (first | assumption | exact gs_at))))))))))))))))))) rfl ?_
  refine wV1n dX1_copyFrom_134 lk_X1_75 rfl (by first | assumption | exact gs_at | (rw [gs_ne (by omega)]; (first | assumption | exact gs_at | (rw [gs_ne (by omega)]; (first | assumption | exact gs_at | (rw [gs_ne (by omega)]; (first | assumption | exact gs_at | (rw [gs_ne (by omega)]; (first | assumption | exact gs_at | (rw [gs_ne (by omega)]; (first | assumption | exact gs_at | (rw [gs_ne (by omega)]; (first | assumption | exact gs_at | (rw [gs_ne (by omega)]; (first | assumption | exact gs_at | (rw [gs_ne (by omega)]; (first | assumption | exact gs_at | (rw [gs_ne (by omega)]; (first | assumption | exact gs_at))))))))))))))))))) rfl rfl (c_copyLog hI11 o12 o13 hd) (Nat.le_of_ble_eq_true rfl) (Nat.le_of_ble_eq_true rfl) (Nat.le_of_ble_eq_true rfl) (Nat.le_of_ble_eq_true rfl) ?_
  refine w_aload_n dX1_copyFrom_137 rfl ?_
  refine w_aload_n dX1_copyFrom_138 rfl ?_
  refine w_getf dX1_copyFrom_139 fl_X1_52 (by first | assumption | exact gs_at | (rw [gs_ne (by omega)]; (first | assumption | exact gs_at | (rw [gs_ne (by omega)]; (first | assumption | exact gs_at | (rw [gs_ne (by omega)]; (first | assumption | exact gs_at | (rw [gs_ne (by omega)]; (first | assumption | exact gs_at | (rw [gs_ne (by omega)]; (first | assumption | exact gs_at | (rw [gs_ne (by omega)]; (first | assumption | exact gs_at | (rw [gs_ne (by omega)]; (first | assumption | exact gs_at | (rw [gs_ne (by omega)]; (first | assumption | exact gs_at | (rw [gs_ne (by omega)]; (first | assumption | exact gs_at))))))))))))))))))) rfl ?_
  refine w_putf dX1_copyFrom_142 fl_X1_52 (by first | assumption | exact gs_at | (rw [gs_ne (by omega)]; (first | assumption | exact gs_at | (rw [gs_ne (by omega)]; (first | assumption | exact gs_at | (rw [gs_ne (by omega)]; (first | assumption | exact gs_at | (rw [gs_ne (by omega)]; (first | assumption | exact gs_at | (rw [gs_ne (by omega)]; (first | assumption | exact gs_at | (rw [gs_ne (by omega)]; (first | assumption | exact gs_at | (rw [gs_ne (by omega)]; (first | assumption | exact gs_at | (rw [gs_ne (by omega)]; (first | assumption | exact gs_at | (rw [gs_ne (by omega)]; (first | assumption | exact gs_at))))))))))))))))))) (by simp) rfl rfl ?_
  refine w_aload_n dX1_copyFrom_145 rfl ?_
  refine w_aload_n dX1_copyFrom_146 rfl ?_
  refine w_getf dX1_copyFrom_147 fl_X1_56 (by first | assumption | exact gs_at | (rw [gs_ne (by omega)]; (first | assumption | exact gs_at | (rw [gs_ne (by omega)]; (first | assumption | exact gs_at | (rw [gs_ne (by omega)]; (first | assumption | exact gs_at | (rw [gs_ne (by omega)]; (first | assumption | exact gs_at | (rw [gs_ne (by omega)]; (first | assumption | exact gs_at | (rw [gs_ne (by omega)]; (first | assumption | exact gs_at | (rw [gs_ne (by omega)]; (first | assumption | exact gs_at | (rw [gs_ne (by omega)]; (first | assumption | exact gs_at | (rw [gs_ne (by omega)]; (first | assumption | exact gs_at))))))))))))))))))) rfl ?_
  refine w_putf dX1_copyFrom_150 fl_X1_56 (by first | assumption | exact gs_at | (rw [gs_ne (by omega)]; (first | assumption | exact gs_at | (rw [gs_ne (by omega)]; (first | assumption | exact gs_at | (rw [gs_ne (by omega)]; (first | assumption | exact gs_at | (rw [gs_ne (by omega)]; (first | assumption | exact gs_at | (rw [gs_ne (by omega)]; (first | assumption | exact gs_at | (rw [gs_ne (by omega)]; (first | assumption | exact gs_at | (rw [gs_ne (by omega)]; (first | assumption | exact gs_at | (rw [gs_ne (by omega)]; (first | assumption | exact gs_at | (rw [gs_ne (by omega)]; (first | assumption | exact gs_at))))))))))))))))))) (by simp) rfl rfl ?_
  refine w_aload_n dX1_copyFrom_153 rfl ?_
  refine w_aload_n dX1_copyFrom_154 rfl ?_
  refine w_getf dX1_copyFrom_155 fl_X1_59 (by first | assumption | exact gs_at | (rw [gs_ne (by omega)]; (first | assumption | exact gs_at | (rw [gs_ne (by omega)]; (first | assumption | exact gs_at | (rw [gs_ne (by omega)]; (first | assumption | exact gs_at | (rw [gs_ne (by omega)]; (first | assumption | exact gs_at | (rw [gs_ne (by omega)]; (first | assumption | exact gs_at | (rw [gs_ne (by omega)]; (first | assumption | exact gs_at | (rw [gs_ne (by omega)]; (first | assumption | exact gs_at | (rw [gs_ne (by omega)]; (first | assumption | exact gs_at | (rw [gs_ne (by omega)]; (first | assumption | exact gs_at))))))))))))))))))) rfl ?_
  refine w_putf dX1_copyFrom_158 fl_X1_59 (by first | assumption | exact gs_at | (rw [gs_ne (by omega)]; (first | assumption | exact gs_at | (rw [gs_ne (by omega)]; (first | assumption | exact gs_at | (rw [gs_ne (by omega)]; (first | assumption | exact gs_at | (rw [gs_ne (by omega)]; (first | assumption | exact gs_at | (rw [gs_ne (by omega)]; (first | assumption | exact gs_at | (rw [gs_ne (by omega)]; (first | assumption | exact gs_at | (rw [gs_ne (by omega)]; (first | assumption | exact gs_at | (rw [gs_ne (by omega)]; (first | assumption | exact gs_at | (rw [gs_ne (by omega)]; (first | assumption | exact gs_at))))))))))))))))))) (by simp) rfl rfl ?_
  refine w_aload_n dX1_copyFrom_161 rfl ?_
  refine w_aload_n dX1_copyFrom_162 rfl ?_
  refine w_getf dX1_copyFrom_163 fl_X1_62 (by first | assumption | exact gs_at | (rw [gs_ne (by omega)]; (first | assumption | exact gs_at | (rw [gs_ne (by omega)]; (first | assumption | exact gs_at | (rw [gs_ne (by omega)]; (first | assumption | exact gs_at | (rw [gs_ne (by omega)]; (first | assumption | exact gs_at | (rw [gs_ne (by omega)]; (first | assumption | exact gs_at | (rw [gs_ne (by omega)]; (first | assumption | exact gs_at | (rw [gs_ne (by omega)]; (first | assumption | exact gs_at | (rw [gs_ne (by omega)]; (first | assumption | exact gs_at | (rw [gs_ne (by omega)]; (first | assumption | exact gs_at))))))))))))))))))) rfl ?_
  refine w_putf dX1_copyFrom_166 fl_X1_62 (by first | assumption | exact gs_at | (rw [gs_ne (by omega)]; (first | assumption | exact gs_at | (rw [gs_ne (by omega)]; (first | assumption | exact gs_at | (rw [gs_ne (by omega)]; (first | assumption | exact gs_at | (rw [gs_ne (by omega)]; (first | assumption | exact gs_at | (rw [gs_ne (by omega)]; (first | assumption | exact gs_at | (rw [gs_ne (by omega)]; (first | assumption | exact gs_at | (rw [gs_ne (by omega)]; (first | assumption | exact gs_at | (rw [gs_ne (by omega)]; (first | assumption | exact gs_at | (rw [gs_ne (by omega)]; (first | assumption | exact gs_at))))))))))))))))))) (by simp) rfl rfl ?_
  refine w_aload_n dX1_copyFrom_169 rfl ?_
  refine w_aload_n dX1_copyFrom_170 rfl ?_
  refine w_getf dX1_copyFrom_171 fl_X1_65 (by first | assumption | exact gs_at | (rw [gs_ne (by omega)]; (first | assumption | exact gs_at | (rw [gs_ne (by omega)]; (first | assumption | exact gs_at | (rw [gs_ne (by omega)]; (first | assumption | exact gs_at | (rw [gs_ne (by omega)]; (first | assumption | exact gs_at | (rw [gs_ne (by omega)]; (first | assumption | exact gs_at | (rw [gs_ne (by omega)]; (first | assumption | exact gs_at | (rw [gs_ne (by omega)]; (first | assumption | exact gs_at | (rw [gs_ne (by omega)]; (first | assumption | exact gs_at | (rw [gs_ne (by omega)]; (first | assumption | exact gs_at))))))))))))))))))) rfl ?_
  refine w_putf dX1_copyFrom_174 fl_X1_65 (by first | assumption | exact gs_at | (rw [gs_ne (by omega)]; (first | assumption | exact gs_at | (rw [gs_ne (by omega)]; (first | assumption | exact gs_at | (rw [gs_ne (by omega)]; (first | assumption | exact gs_at | (rw [gs_ne (by omega)]; (first | assumption | exact gs_at | (rw [gs_ne (by omega)]; (first | assumption | exact gs_at | (rw [gs_ne (by omega)]; (first | assumption | exact gs_at | (rw [gs_ne (by omega)]; (first | assumption | exact gs_at | (rw [gs_ne (by omega)]; (first | assumption | exact gs_at | (rw [gs_ne (by omega)]; (first | assumption | exact gs_at))))))))))))))))))) (by simp) rfl rfl ?_
  refine w_aload_n dX1_copyFrom_177 rfl ?_
  refine w_aload_n dX1_copyFrom_178 rfl ?_
  refine w_getf dX1_copyFrom_179 fl_X1_68 (by first | assumption | exact gs_at | (rw [gs_ne (by omega)]; (first | assumption | exact gs_at | (rw [gs_ne (by omega)]; (first | assumption | exact gs_at | (rw [gs_ne (by omega)]; (first | assumption | exact gs_at | (rw [gs_ne (by omega)]; (first | assumption | exact gs_at | (rw [gs_ne (by omega)]; (first | assumption | exact gs_at | (rw [gs_ne (by omega)]; (first | assumption | exact gs_at | (rw [gs_ne (by omega)]; (first | assumption | exact gs_at | (rw [gs_ne (by omega)]; (first | assumption | exact gs_at | (rw [gs_ne (by omega)]; (first | assumption | exact gs_at))))))))))))))))))) rfl ?_
  refine w_putf dX1_copyFrom_182 fl_X1_68 (by first | assumption | exact gs_at | (rw [gs_ne (by omega)]; (first | assumption | exact gs_at | (rw [gs_ne (by omega)]; (first | assumption | exact gs_at | (rw [gs_ne (by omega)]; (first | assumption | exact gs_at | (rw [gs_ne (by omega)]; (first | assumption | exact gs_at | (rw [gs_ne (by omega)]; (first | assumption | exact gs_at | (rw [gs_ne (by omega)]; (first | assumption | exact gs_at | (rw [gs_ne (by omega)]; (first | assumption | exact gs_at | (rw [gs_ne (by omega)]; (first | assumption | exact gs_at | (rw [gs_ne (by omega)]; (first | assumption | exact gs_at))))))))))))))))))) (by simp) rfl rfl ?_
  refine w_vret dX1_copyFrom_185 rfl (Nat.le_of_ble_eq_true rfl) (Nat.le_of_ble_eq_true rfl) ?_
  refine ⟨rfl, ?_, ?_⟩
  · obtain ⟨f1, e1, q1⟩ := hrows 1 (by decide) (by decide); obtain ⟨f2, e2, q2⟩ := hrows 2 (by decide) (by decide); obtain ⟨f3, e3, q3⟩ := hrows 3 (by decide) (by decide); obtain ⟨f4, e4, q4⟩ := hrows 4 (by decide) (by decide); obtain ⟨f5, e5, q5⟩ := hrows 5 (by decide) (by decide); obtain ⟨f6, e6, q6⟩ := hrows 6 (by decide) (by decide); obtain ⟨f7, e7, q7⟩ := hrows 7 (by decide) (by decide); obtain ⟨f8, e8, q8⟩ := hrows 8 (by decide) (by decide); obtain ⟨f9, e9, q9⟩ := hrows 9 (by decide) (by decide); obtain ⟨f10, e10, q10⟩ := hrows 10 (by decide) (by decide); obtain ⟨f11, e11, q11⟩ := hrows 11 (by decide) (by decide)
    cases q1 (by decide); cases q2 (by decide); cases q3 (by decide); cases q4 (by decide); cases q5 (by decide); cases q6 (by decide); cases q7 (by decide); cases q8 (by decide); cases q9 (by decide); cases q10 (by decide); cases q11 (by decide)
    have far : ∀ q x y z, q ≠ a → q ≠ a + 12 → q ≠ a + 13 → (gs (gs (gs G11 (a + 13) x) (a + 12) y) a z).1 q = G11.1 q := fun q x y z h1 h2 h3 => by rw [gs_ne h1, gs_ne h2, gs_ne h3]
    rw [gs_gs, gs_gs, gs_gs, gs_gs, gs_gs]
    exact ⟨gs_at, by rw [far _ _ _ _ (by omega) (by omega) (by omega)]; exact e1, by rw [far _ _ _ _ (by omega) (by omega) (by omega)]; exact e2, by rw [far _ _ _ _ (by omega) (by omega) (by omega)]; exact e3, by rw [far _ _ _ _ (by omega) (by omega) (by omega)]; exact e4, by rw [far _ _ _ _ (by omega) (by omega) (by omega)]; exact e5, by rw [far _ _ _ _ (by omega) (by omega) (by omega)]; exact e6, by rw [far _ _ _ _ (by omega) (by omega) (by omega)]; exact e7, by rw [far _ _ _ _ (by omega) (by omega) (by omega)]; exact e8, by rw [far _ _ _ _ (by omega) (by omega) (by omega)]; exact e9, by rw [far _ _ _ _ (by omega) (by omega) (by omega)]; exact e10, by rw [far _ _ _ _ (by omega) (by omega) (by omega)]; exact e11, by rw [gs_ne (by omega)]; exact gs_at, by rw [gs_ne (by omega), gs_ne (by omega)]; exact gs_at⟩
  · have h9 := hF1.tr (hF2.tr (hF3.tr (hF4.tr (hF5.tr (hF6.tr (hF7.tr (hF8.tr (hF9.tr (hF10.tr hF11)))))))))
    exact h9.tr ((Fr.gs (by omega) (by omega)).tr ((Fr.gs (by omega) (by omega)).tr ((Fr.gs (by omega) (by omega)).tr ((Fr.gs (by omega) (by omega)).tr ((Fr.gs (by omega) (by omega)).tr ((Fr.gs (by omega) (by omega)).tr ((Fr.gs (by omega) (by omega)).tr (Fr.gs (by omega) (by omega)))))))))
