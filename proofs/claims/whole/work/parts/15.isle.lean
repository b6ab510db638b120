theorem Isl.pu11 {G : AH} {a : Nat} {T : ST} {sd : Int32} (h : Isl G a T sd) (k v : Nat) : Isl (gs G (a + 13) (aI 240 (upd (fun i => nI (T 11 i)) k (nI v)))) a (tu T 11 k v) sd := by
  obtain ⟨i0, i1, i2, i3, i4, i5, i6, i7, i8, i9, i10, i11, i12, i13⟩ := h
  exact ⟨by rw [gs_ne (by omega)]; simp only [isO, tu_ne1 T k v _ (show 12 ≠ 11 by decide)]; exact i0, by rw [gs_ne (by omega), tu_ne T k v (show 0 ≠ 11 by decide)]; exact i1, by rw [gs_ne (by omega), tu_ne T k v (show 1 ≠ 11 by decide)]; exact i2, by rw [gs_ne (by omega), tu_ne T k v (show 2 ≠ 11 by decide)]; exact i3, by rw [gs_ne (by omega), tu_ne T k v (show 3 ≠ 11 by decide)]; exact i4, by rw [gs_ne (by omega), tu_ne T k v (show 4 ≠ 11 by decide)]; exact i5, by rw [gs_ne (by omega), tu_ne T k v (show 5 ≠ 11 by decide)]; exact i6, by rw [gs_ne (by omega), tu_ne T k v (show 6 ≠ 11 by decide)]; exact i7, by rw [gs_ne (by omega), tu_ne T k v (show 7 ≠ 11 by decide)]; exact i8, by rw [gs_ne (by omega), tu_ne T k v (show 8 ≠ 11 by decide)]; exact i9, by rw [gs_ne (by omega), tu_ne T k v (show 9 ≠ 11 by decide)]; exact i10, by rw [gs_ne (by omega), tu_ne T k v (show 10 ≠ 11 by decide)]; exact i11, by rw [gs_ne (by omega)]; simp only [leO, tu_ne1 T k v _ (show 12 ≠ 11 by decide)]; exact i12, by rw [tu_row]; exact gs_at⟩
theorem c_pu11 {E : EV} {G : AH} {a : Nat} {T : ST} {sd : Int32} (h : Isl G a T sd) {k v : Nat} (hk : k < 240) : Cd E 1 kX7_put [.ref (a + 13), .int (nI k), .int (nI v)] G (fun G1 => Isl G1 a (tu T 11 k v) sd ∧ Fr G G1 a) := by
  have h9 := c_putN (E := E) (x := nI v) h.2.2.2.2.2.2.2.2.2.2.2.2.2 hk (by decide)
  exact h9.imp (fun G1 e => by subst e; exact ⟨h.pu11 k v, Fr.gs (by omega) (by omega)⟩)
theorem Isl.pl1 {G : AH} {a : Nat} {T : ST} {sd : Int32} (h : Isl G a T sd) (v : Nat) : Isl (gs G (a + 12) (oB 4 (List.set [.ref (a + 13), .int (nI (T 12 5)), .int (nI (T 12 6))] 1 (.int (nI v))))) a (tu T 12 5 v) sd := by
  obtain ⟨i0, i1, i2, i3, i4, i5, i6, i7, i8, i9, i10, i11, i12, i13⟩ := h
  exact ⟨by rw [gs_ne (by omega)]; simp only [isO, tu_nk T 12 12 v (show (0 : Nat) ≠ 5 by decide), tu_nk T 12 12 v (show (1 : Nat) ≠ 5 by decide), tu_nk T 12 12 v (show (2 : Nat) ≠ 5 by decide), tu_nk T 12 12 v (show (3 : Nat) ≠ 5 by decide), tu_nk T 12 12 v (show (4 : Nat) ≠ 5 by decide), tu_nk T 12 12 v (show (6 : Nat) ≠ 5 by decide)]; exact i0, by rw [gs_ne (by omega), tu_ne T 5 v (show 0 ≠ 12 by decide)]; exact i1, by rw [gs_ne (by omega), tu_ne T 5 v (show 1 ≠ 12 by decide)]; exact i2, by rw [gs_ne (by omega), tu_ne T 5 v (show 2 ≠ 12 by decide)]; exact i3, by rw [gs_ne (by omega), tu_ne T 5 v (show 3 ≠ 12 by decide)]; exact i4, by rw [gs_ne (by omega), tu_ne T 5 v (show 4 ≠ 12 by decide)]; exact i5, by rw [gs_ne (by omega), tu_ne T 5 v (show 5 ≠ 12 by decide)]; exact i6, by rw [gs_ne (by omega), tu_ne T 5 v (show 6 ≠ 12 by decide)]; exact i7, by rw [gs_ne (by omega), tu_ne T 5 v (show 7 ≠ 12 by decide)]; exact i8, by rw [gs_ne (by omega), tu_ne T 5 v (show 8 ≠ 12 by decide)]; exact i9, by rw [gs_ne (by omega), tu_ne T 5 v (show 9 ≠ 12 by decide)]; exact i10, by rw [gs_ne (by omega), tu_ne T 5 v (show 10 ≠ 12 by decide)]; exact i11, by rw [gs_at]; simp only [leO, tu_at, tu_nk T 12 12 v (show (0 : Nat) ≠ 5 by decide), tu_nk T 12 12 v (show (1 : Nat) ≠ 5 by decide), tu_nk T 12 12 v (show (2 : Nat) ≠ 5 by decide), tu_nk T 12 12 v (show (3 : Nat) ≠ 5 by decide), tu_nk T 12 12 v (show (4 : Nat) ≠ 5 by decide), tu_nk T 12 12 v (show (6 : Nat) ≠ 5 by decide)]; rfl, by rw [gs_ne (by omega), tu_ne T 5 v (show 11 ≠ 12 by decide)]; exact i13⟩
theorem w_pisL1 {E : EV} {d mc ms : Nat} {K : MR} {Q : OC → AH → Prop} {G : AH} {cs : Nat × Nat} {pc : Nat} {L st : List Value} {idx a v : Nat} {T : ST} {sd : Int32} (hI : Isl G a T sd) (hd : decode K.2.1 pc = .ok (.putfield idx, 3)) (hf : FL K.1.cls idx 4 1 false .int) (k : ∀ G1, Isl G1 a (tu T 12 5 v) sd → Fr G G1 a → Wp E d mc ms K Q G1 cs (pc + 3) L st) : Wp E d mc ms K Q G cs pc L (.int (nI v) :: .ref (a + 12) :: st) := w_putf hd hf hI.2.2.2.2.2.2.2.2.2.2.2.2.1 (by simp) rfl rfl (k _ (hI.pl1 v) (Fr.gs (by omega) (by omega)))
theorem Isl.pl2 {G : AH} {a : Nat} {T : ST} {sd : Int32} (h : Isl G a T sd) (v : Nat) : Isl (gs G (a + 12) (oB 4 (List.set [.ref (a + 13), .int (nI (T 12 5)), .int (nI (T 12 6))] 2 (.int (nI v))))) a (tu T 12 6 v) sd := by
  obtain ⟨i0, i1, i2, i3, i4, i5, i6, i7, i8, i9, i10, i11, i12, i13⟩ := h
  exact ⟨by rw [gs_ne (by omega)]; simp only [isO, tu_nk T 12 12 v (show (0 : Nat) ≠ 6 by decide), tu_nk T 12 12 v (show (1 : Nat) ≠ 6 by decide), tu_nk T 12 12 v (show (2 : Nat) ≠ 6 by decide), tu_nk T 12 12 v (show (3 : Nat) ≠ 6 by decide), tu_nk T 12 12 v (show (4 : Nat) ≠ 6 by decide), tu_nk T 12 12 v (show (5 : Nat) ≠ 6 by decide)]; exact i0, by rw [gs_ne (by omega), tu_ne T 6 v (show 0 ≠ 12 by decide)]; exact i1, by rw [gs_ne (by omega), tu_ne T 6 v (show 1 ≠ 12 by decide)]; exact i2, by rw [gs_ne (by omega), tu_ne T 6 v (show 2 ≠ 12 by decide)]; exact i3, by rw [gs_ne (by omega), tu_ne T 6 v (show 3 ≠ 12 by decide)]; exact i4, by rw [gs_ne (by omega), tu_ne T 6 v (show 4 ≠ 12 by decide)]; exact i5, by rw [gs_ne (by omega), tu_ne T 6 v (show 5 ≠ 12 by decide)]; exact i6, by rw [gs_ne (by omega), tu_ne T 6 v (show 6 ≠ 12 by decide)]; exact i7, by rw [gs_ne (by omega), tu_ne T 6 v (show 7 ≠ 12 by decide)]; exact i8, by rw [gs_ne (by omega), tu_ne T 6 v (show 8 ≠ 12 by decide)]; exact i9, by rw [gs_ne (by omega), tu_ne T 6 v (show 9 ≠ 12 by decide)]; exact i10, by rw [gs_ne (by omega), tu_ne T 6 v (show 10 ≠ 12 by decide)]; exact i11, by rw [gs_at]; simp only [leO, tu_at, tu_nk T 12 12 v (show (0 : Nat) ≠ 6 by decide), tu_nk T 12 12 v (show (1 : Nat) ≠ 6 by decide), tu_nk T 12 12 v (show (2 : Nat) ≠ 6 by decide), tu_nk T 12 12 v (show (3 : Nat) ≠ 6 by decide), tu_nk T 12 12 v (show (4 : Nat) ≠ 6 by decide), tu_nk T 12 12 v (show (5 : Nat) ≠ 6 by decide)]; rfl, by rw [gs_ne (by omega), tu_ne T 6 v (show 11 ≠ 12 by decide)]; exact i13⟩
theorem w_pisL2 {E : EV} {d mc ms : Nat} {K : MR} {Q : OC → AH → Prop} {G : AH} {cs : Nat × Nat} {pc : Nat} {L st : List Value} {idx a v : Nat} {T : ST} {sd : Int32} (hI : Isl G a T sd) (hd : decode K.2.1 pc = .ok (.putfield idx, 3)) (hf : FL K.1.cls idx 4 2 false .int) (k : ∀ G1, Isl G1 a (tu T 12 6 v) sd → Fr G G1 a → Wp E d mc ms K Q G1 cs (pc + 3) L st) : Wp E d mc ms K Q G cs pc L (.int (nI v) :: .ref (a + 12) :: st) := w_putf hd hf hI.2.2.2.2.2.2.2.2.2.2.2.2.1 (by simp) rfl rfl (k _ (hI.pl2 v) (Fr.gs (by omega) (by omega)))
def addT (T : ST) (d s g m : Nat) : ST := tu (tu (tu (tu (tu (tu T 12 5 ((T 12 5 + 1) % 60)) 12 6 (min 60 (T 12 6 + 1))) 11 ((T 12 5 + 1) % 60 * 4) d) 11 ((T 12 5 + 1) % 60 * 4 + 1) s) 11 ((T 12 5 + 1) % 60 * 4 + 2) g) 11 ((T 12 5 + 1) % 60 * 4 + 3) m
theorem c_add {E : EV} {a : Nat} {T : ST} {sd : Int32} {G : AH} {d s g m : Nat} (hI : Isl G a T sd) (hB : Bd T) : Cd E 2 kX4_add [.ref (a + 12), .int (nI d), .int (nI s), .int (nI g), .int (nI m)] G (fun G1 => Isl G1 a (addT T d s g m) sd ∧ Fr G G1 a) := by
  obtain ⟨i0, i1, i2, i3, i4, i5, i6, i7, i8, i9, i10, i11, i12, i13⟩ := id hI
  obtain ⟨b0, b1, b2_, b3, b4, b5, b6, b7, b8, b9, b10, b11, b12, b13, b14, b15, b16, b17, b18, b19⟩ := id hB
  have hL : (T 12 5 + 1) % 60 < 60 := Nat.mod_lt _ (by decide)
  refine Ct.intro rfl (by decide) [.ref (a + 12), .int (nI d), .int (nI s), .int (nI g), .int (nI m)] (by simp [Value.category]) (Nat.le_of_ble_eq_true rfl) rfl ?_
  refine w_aload_n dX4_add_0 rfl ?_
  refine w_aload_n dX4_add_1 rfl ?_
  refine w_getf dX4_add_2 fl_X4_15 (by first | assumption | exact gs_at | (rw [gs_ne (by omega)]; (first | assumption | exact gs_at | (rw [gs_ne (by omega)]; (first | assumption | exact gs_at | (rw [gs_ne (by omega)]; (first | assumption | exact gs_at | (rw [gs_ne (by omega)]; (first | assumption | exact gs_at))))))))) rfl ?_
  refine w_iconst (v := nI 1) dX4_add_5 (by decide) ?_
  first | refine w_iaddN dX4_add_6 ?_ | refine w_iadd dX4_add_6 ?_
  refine w_bipush (v := nI 60) dX4_add_7 (by decide) ?_
  first | refine w_iremN (by omega) (by omega) (by omega) dX4_add_9 ?_ | refine w_irem dX4_add_9 (by decide) ?_
  refine w_pisL1 (v := (T 12 5 + 1) % 60) hI dX4_add_10 fl_X4_15 (fun G1 hI1 hF1 => ?_)
  obtain ⟨i0, i1, i2, i3, i4, i5, i6, i7, i8, i9, i10, i11, i12, i13⟩ := id hI1
  simp only [leO, tu_at, tu_nk _ 12 12 _ (show (6 : Nat) ≠ 5 by decide)] at i12
  refine w_aload_n dX4_add_13 rfl ?_
  refine w_bipush (v := nI 60) dX4_add_14 (by decide) ?_
  refine w_aload_n dX4_add_16 rfl ?_
  refine w_getf dX4_add_17 fl_X4_19 (by first | assumption | exact gs_at | (rw [gs_ne (by omega)]; (first | assumption | exact gs_at | (rw [gs_ne (by omega)]; (first | assumption | exact gs_at | (rw [gs_ne (by omega)]; (first | assumption | exact gs_at | (rw [gs_ne (by omega)]; (first | assumption | exact gs_at))))))))) rfl ?_
  refine w_iconst (v := nI 1) dX4_add_20 (by decide) ?_
  first | refine w_iaddN dX4_add_21 ?_ | refine w_iadd dX4_add_21 ?_
  refine wJ2u dX4_add_22 lk_X4_26 rfl (c_min (by omega) (by omega)) (Nat.le_of_ble_eq_true rfl) (Nat.le_of_ble_eq_true rfl) (Nat.le_of_ble_eq_true rfl) (Nat.le_of_ble_eq_true rfl) ?_
  refine w_pisL2 (v := min 60 (T 12 6 + 1)) hI1 dX4_add_25 fl_X4_19 (fun G2 hI2 hF2 => ?_)
  obtain ⟨i0, i1, i2, i3, i4, i5, i6, i7, i8, i9, i10, i11, i12, i13⟩ := id hI2
  simp only [leO, tu_at, tu_nk _ 12 12 _ (show (5 : Nat) ≠ 6 by decide), tu_ne1 _ _ _ 5 (show 12 ≠ 11 by decide)] at i12
  refine w_aload_n dX4_add_28 rfl ?_
  refine w_getf dX4_add_29 fl_X4_9 (by first | assumption | exact gs_at | (rw [gs_ne (by omega)]; (first | assumption | exact gs_at | (rw [gs_ne (by omega)]; (first | assumption | exact gs_at | (rw [gs_ne (by omega)]; (first | assumption | exact gs_at | (rw [gs_ne (by omega)]; (first | assumption | exact gs_at))))))))) rfl ?_
  refine w_aload_n dX4_add_32 rfl ?_
  refine w_getf dX4_add_33 fl_X4_15 (by first | assumption | exact gs_at | (rw [gs_ne (by omega)]; (first | assumption | exact gs_at | (rw [gs_ne (by omega)]; (first | assumption | exact gs_at | (rw [gs_ne (by omega)]; (first | assumption | exact gs_at | (rw [gs_ne (by omega)]; (first | assumption | exact gs_at))))))))) rfl ?_
  refine w_iconst (v := nI 4) dX4_add_36 (by decide) ?_
  first | refine w_imulN dX4_add_37 ?_ | refine w_imul dX4_add_37 ?_
  refine w_iload_n dX4_add_38 rfl ?_
  refine wN3d dX4_add_39 lk_X4_32 rfl (c_pu11 hI2 (by omega)) (Nat.le_of_ble_eq_true rfl) (Nat.le_of_ble_eq_true rfl) (Nat.le_of_ble_eq_true rfl) (Nat.le_of_ble_eq_true rfl) (fun G3 h_39 => ?_)
  obtain ⟨hI3, hF3⟩ := h_39
  obtain ⟨i0, i1, i2, i3, i4, i5, i6, i7, i8, i9, i10, i11, i12, i13⟩ := id hI3
  simp only [leO, tu_at, tu_nk _ 12 12 _ (show (5 : Nat) ≠ 6 by decide), tu_ne1 _ _ _ 5 (show 12 ≠ 11 by decide)] at i12
  refine w_aload_n dX4_add_42 rfl ?_
  refine w_getf dX4_add_43 fl_X4_9 (by first | assumption | exact gs_at | (rw [gs_ne (by omega)]; (first | assumption | exact gs_at | (rw [gs_ne (by omega)]; (first | assumption | exact gs_at | (rw [gs_ne (by omega)]; (first | assumption | exact gs_at | (rw [gs_ne (by omega)]; (first | assumption | exact gs_at))))))))) rfl ?_
  refine w_aload_n dX4_add_46 rfl ?_
  refine w_getf dX4_add_47 fl_X4_15 (by first | assumption | exact gs_at | (rw [gs_ne (by omega)]; (first | assumption | exact gs_at | (rw [gs_ne (by omega)]; (first | assumption | exact gs_at | (rw [gs_ne (by omega)]; (first | assumption | exact gs_at | (rw [gs_ne (by omega)]; (first | assumption | exact gs_at))))))))) rfl ?_
  refine w_iconst (v := nI 4) dX4_add_50 (by decide) ?_
  first | refine w_imulN dX4_add_51 ?_ | refine w_imul dX4_add_51 ?_
  refine w_iconst (v := nI 1) dX4_add_52 (by decide) ?_
  first | refine w_iaddN dX4_add_53 ?_ | refine w_iadd dX4_add_53 ?_
  refine w_iload_n dX4_add_54 rfl ?_
  refine wN3d dX4_add_55 lk_X4_32 rfl (c_pu11 hI3 (by omega)) (Nat.le_of_ble_eq_true rfl) (Nat.le_of_ble_eq_true rfl) (Nat.le_of_ble_eq_true rfl) (Nat.le_of_ble_eq_true rfl) (fun G4 h_55 => ?_)
  obtain ⟨hI4, hF4⟩ := h_55
  obtain ⟨i0, i1, i2, i3, i4, i5, i6, i7, i8, i9, i10, i11, i12, i13⟩ := id hI4
  simp only [leO, tu_at, tu_nk _ 12 12 _ (show (5 : Nat) ≠ 6 by decide), tu_ne1 _ _ _ 5 (show 12 ≠ 11 by decide)] at i12
  refine w_aload_n dX4_add_58 rfl ?_
  refine w_getf dX4_add_59 fl_X4_9 (by first | assumption | exact gs_at | (rw [gs_ne (by omega)]; (first | assumption | exact gs_at | (rw [gs_ne (by omega)]; (first | assumption | exact gs_at | (rw [gs_ne (by omega)]; (first | assumption | exact gs_at | (rw [gs_ne (by omega)]; (first | assumption | exact gs_at))))))))) rfl ?_
  refine w_aload_n dX4_add_62 rfl ?_
  refine w_getf dX4_add_63 fl_X4_15 (by first | assumption | exact gs_at | (rw [gs_ne (by omega)]; (first | assumption | exact gs_at | (rw [gs_ne (by omega)]; (first | assumption | exact gs_at | (rw [gs_ne (by omega)]; (first | assumption | exact gs_at | (rw [gs_ne (by omega)]; (first | assumption | exact gs_at))))))))) rfl ?_
  refine w_iconst (v := nI 4) dX4_add_66 (by decide) ?_
  first | refine w_imulN dX4_add_67 ?_ | refine w_imul dX4_add_67 ?_
  refine w_iconst (v := nI 2) dX4_add_68 (by decide) ?_
  first | refine w_iaddN dX4_add_69 ?_ | refine w_iadd dX4_add_69 ?_
  refine w_iload_n dX4_add_70 rfl ?_
  refine wN3d dX4_add_71 lk_X4_32 rfl (c_pu11 hI4 (by omega)) (Nat.le_of_ble_eq_true rfl) (Nat.le_of_ble_eq_true rfl) (Nat.le_of_ble_eq_true rfl) (Nat.le_of_ble_eq_true rfl) (fun G5 h_71 => ?_)
  obtain ⟨hI5, hF5⟩ := h_71
  obtain ⟨i0, i1, i2, i3, i4, i5, i6, i7, i8, i9, i10, i11, i12, i13⟩ := id hI5
  simp only [leO, tu_at, tu_nk _ 12 12 _ (show (5 : Nat) ≠ 6 by decide), tu_ne1 _ _ _ 5 (show 12 ≠ 11 by decide)] at i12
  refine w_aload_n dX4_add_74 rfl ?_
  refine w_getf dX4_add_75 fl_X4_9 (by first | assumption | exact gs_at | (rw [gs_ne (by omega)]; (first | assumption | exact gs_at | (rw [gs_ne (by omega)]; (first | assumption | exact gs_at | (rw [gs_ne (by omega)]; (first | assumption | exact gs_at | (rw [gs_ne (by omega)]; (first | assumption | exact gs_at))))))))) rfl ?_
  refine w_aload_n dX4_add_78 rfl ?_
  refine w_getf dX4_add_79 fl_X4_15 (by first | assumption | exact gs_at | (rw [gs_ne (by omega)]; (first | assumption | exact gs_at | (rw [gs_ne (by omega)]; (first | assumption | exact gs_at | (rw [gs_ne (by omega)]; (first | assumption | exact gs_at | (rw [gs_ne (by omega)]; (first | assumption | exact gs_at))))))))) rfl ?_
  refine w_iconst (v := nI 4) dX4_add_82 (by decide) ?_
  first | refine w_imulN dX4_add_83 ?_ | refine w_imul dX4_add_83 ?_
  refine w_iconst (v := nI 3) dX4_add_84 (by decide) ?_
  first | refine w_iaddN dX4_add_85 ?_ | refine w_iadd dX4_add_85 ?_
  refine w_iload dX4_add_86 rfl ?_
  refine wN3d dX4_add_88 lk_X4_32 rfl (c_pu11 hI5 (by omega)) (Nat.le_of_ble_eq_true rfl) (Nat.le_of_ble_eq_true rfl) (Nat.le_of_ble_eq_true rfl) (Nat.le_of_ble_eq_true rfl) (fun G6 h_88 => ?_)
  obtain ⟨hI6, hF6⟩ := h_88
  refine w_vret dX4_add_91 rfl (Nat.le_of_ble_eq_true rfl) (Nat.le_of_ble_eq_true rfl) ?_
  exact ⟨rfl, hI6, hF1.tr (hF2.tr (hF3.tr (hF4.tr (hF5.tr hF6))))⟩
def dN (s : Int32) : Int32 := 1103515245 * s + nI 12345
def drN (s : Int32) : Nat := s.toBitVec.toNat / 65536 % 32768
theorem drN_lt (s : Int32) : drN s < 32768 := Nat.mod_lt _ (by decide)
theorem dr_eq (s : Int32) : (s.toUInt32 >>> ((nI 16).toUInt32 &&& Int32.toUInt32 31)).toInt32 &&& nI 32767 = nI (drN s) := by
  rw [pk_and _ (m := nI 32767) 15 (by decide), pk_ushr s (nI 16) 16 (by decide)]
  rfl
theorem c_draw {E : EV} {a : Nat} {T : ST} {sd : Int32} {G : AH} (hI : Isl G a T sd) (hB : Bd T) : Ci E 1 kX1_draw [.ref a] G (fun r G1 => r = nI (drN (dN sd)) ∧ Isl G1 a T (dN sd) ∧ Fr G G1 a) := by
  obtain ⟨i0, i1, i2, i3, i4, i5, i6, i7, i8, i9, i10, i11, i12, i13⟩ := id hI
  refine Ct.intro rfl (by decide) [.ref a] (by simp [Value.category]) (Nat.le_of_ble_eq_true rfl) rfl ?_
  refine w_aload_n dX1_draw_0 rfl ?_
  refine w_ldc (v := 1103515245) dX1_draw_1 u_458 ?_
  refine w_aload_n dX1_draw_3 rfl ?_
  refine w_getf dX1_draw_4 fl_X1_68 (by first | assumption | exact gs_at | (rw [gs_ne (by omega)]; (first | assumption | exact gs_at | (rw [gs_ne (by omega)]; (first | assumption | exact gs_at | (rw [gs_ne (by omega)]; (first | assumption | exact gs_at | (rw [gs_ne (by omega)]; (first | assumption | exact gs_at))))))))) rfl ?_
  refine w_imul dX1_draw_7 ?_
  refine w_sipush (v := nI 12345) dX1_draw_8 (by decide) ?_
  refine w_iadd dX1_draw_11 ?_
  refine w_pisSd (s2 := dN sd) hI dX1_draw_12 fl_X1_68 (fun G1 hI1 hF1 => ?_)
  obtain ⟨i0, i1, i2, i3, i4, i5, i6, i7, i8, i9, i10, i11, i12, i13⟩ := id hI1
  refine w_aload_n dX1_draw_15 rfl ?_
  refine w_getf dX1_draw_16 fl_X1_68 (by first | assumption | exact gs_at | (rw [gs_ne (by omega)]; (first | assumption | exact gs_at | (rw [gs_ne (by omega)]; (first | assumption | exact gs_at | (rw [gs_ne (by omega)]; (first | assumption | exact gs_at | (rw [gs_ne (by omega)]; (first | assumption | exact gs_at))))))))) rfl ?_
  refine w_bipush (v := nI 16) dX1_draw_19 (by decide) ?_
  refine w_iushr dX1_draw_21 ?_
  refine w_sipush (v := nI 32767) dX1_draw_22 (by decide) ?_
  refine w_iand dX1_draw_25 ?_
  refine w_iret dX1_draw_26 rfl (Nat.le_of_ble_eq_true rfl) (Nat.le_of_ble_eq_true rfl) ?_
  exact ⟨_, rfl, dr_eq _, hI1, hF1⟩
def wetS (T : ST) (w i : Nat) : ST := if T 1 i = w then tu T 2 i (min 99 (T 2 i + 2)) else T
def wetT (T : ST) (w : Nat) : Nat → ST | 0 => T | i + 1 => wetS (wetT T w i) w i
theorem wetS_ne (T : ST) (w i : Nat) {g : Nat} (h : g ≠ 2) (j : Nat) : wetS T w i g j = T g j := by unfold wetS; split; exact tu_ne1 _ _ _ _ h; rfl
theorem wetT_ne (T : ST) (w : Nat) {g : Nat} (h : g ≠ 2) (j : Nat) : ∀ i, wetT T w i g j = T g j
  | 0 => rfl
  | i + 1 => by rw [wetT, wetS_ne _ _ _ h, wetT_ne T w h j i]
theorem Bd.pu2 {T : ST} (hB : Bd T) {k v : Nat} (hk : k < T 12 0) (hv : v ≤ 99) : Bd (tu T 2 k v) := by
  obtain ⟨b0, b1, b2_, b3, b4, b5, b6, b7, b8, b9, b10, b11, b12, b13, b14, b15, b16, b17, b18, b19⟩ := hB
  refine ⟨?_, fun i => ?_, fun i => ?_, fun i => ?_, fun i => ?_, fun i => ?_, fun i => ?_, fun i => ?_, fun i => ?_, fun i => ?_, fun i => ?_, fun i => ?_, fun i => ?_, ?_, ?_, ?_, ?_, ?_, ?_, fun f i hf hi => ?_⟩
  · rw [tu_ne1 _ _ _ _ (by decide)]; exact b0
  · rw [tu_ne1 _ _ _ _ (by decide)]; exact b1 i
  · rw [tu_ne1 _ _ _ _ (by decide)]; exact b2_ i
  · unfold tu; split; exact hv; exact b3 i
  · rw [tu_ne1 _ _ _ _ (by decide)]; exact b4 i
  · rw [tu_ne1 _ _ _ _ (by decide)]; exact b5 i
  · rw [tu_ne1 _ _ _ _ (by decide)]; exact b6 i
  · rw [tu_ne1 _ _ _ _ (by decide)]; exact b7 i
  · rw [tu_ne1 _ _ _ _ (by decide)]; exact b8 i
  · rw [tu_ne1 _ _ _ _ (by decide)]; exact b9 i
  · rw [tu_ne1 _ _ _ _ (by decide)]; exact b10 i
  · rw [tu_ne1 _ _ _ _ (by decide)]; exact b11 i
  · rw [tu_ne1 _ _ _ _ (by decide)]; exact b12 i
  · rw [tu_ne1 _ _ _ _ (by decide)]; exact b13
  · rw [tu_ne1 _ _ _ _ (by decide)]; exact b14
  · rw [tu_ne1 _ _ _ _ (by decide)]; exact b15
  · rw [tu_ne1 _ _ _ _ (by decide)]; exact b16
  · rw [tu_ne1 _ _ _ _ (by decide)]; exact b17
  · rw [tu_ne1 _ _ _ _ (by decide)]; exact b18
  · rw [tu_ne1 _ _ _ _ (by decide)] at hi
    unfold tu; split
    · omega
    · exact b19 f i hf hi
theorem Bd.pu0 {T : ST} (hB : Bd T) {k v : Nat} (hk : k < T 12 0) (hv : v < 6) : Bd (tu T 0 k v) := by
  obtain ⟨b0, b1, b2_, b3, b4, b5, b6, b7, b8, b9, b10, b11, b12, b13, b14, b15, b16, b17, b18, b19⟩ := hB
  refine ⟨?_, fun i => ?_, fun i => ?_, fun i => ?_, fun i => ?_, fun i => ?_, fun i => ?_, fun i => ?_, fun i => ?_, fun i => ?_, fun i => ?_, fun i => ?_, fun i => ?_, ?_, ?_, ?_, ?_, ?_, ?_, fun f i hf hi => ?_⟩
  · rw [tu_ne1 _ _ _ _ (by decide)]; exact b0
  · unfold tu; split; exact hv; exact b1 i
  · rw [tu_ne1 _ _ _ _ (by decide)]; exact b2_ i
  · rw [tu_ne1 _ _ _ _ (by decide)]; exact b3 i
  · rw [tu_ne1 _ _ _ _ (by decide)]; exact b4 i
  · rw [tu_ne1 _ _ _ _ (by decide)]; exact b5 i
  · rw [tu_ne1 _ _ _ _ (by decide)]; exact b6 i
  · rw [tu_ne1 _ _ _ _ (by decide)]; exact b7 i
  · rw [tu_ne1 _ _ _ _ (by decide)]; exact b8 i
  · rw [tu_ne1 _ _ _ _ (by decide)]; exact b9 i
  · rw [tu_ne1 _ _ _ _ (by decide)]; exact b10 i
  · rw [tu_ne1 _ _ _ _ (by decide)]; exact b11 i
  · rw [tu_ne1 _ _ _ _ (by decide)]; exact b12 i
  · rw [tu_ne1 _ _ _ _ (by decide)]; exact b13
  · rw [tu_ne1 _ _ _ _ (by decide)]; exact b14
  · rw [tu_ne1 _ _ _ _ (by decide)]; exact b15
  · rw [tu_ne1 _ _ _ _ (by decide)]; exact b16
  · rw [tu_ne1 _ _ _ _ (by decide)]; exact b17
  · rw [tu_ne1 _ _ _ _ (by decide)]; exact b18
  · rw [tu_ne1 _ _ _ _ (by decide)] at hi
    unfold tu; split
    · omega
    · exact b19 f i hf hi
theorem Bd.pu1 {T : ST} (hB : Bd T) {k v : Nat} (hk : k < T 12 0) (hv : v < 6) : Bd (tu T 1 k v) := by
  obtain ⟨b0, b1, b2_, b3, b4, b5, b6, b7, b8, b9, b10, b11, b12, b13, b14, b15, b16, b17, b18, b19⟩ := hB
  refine ⟨?_, fun i => ?_, fun i => ?_, fun i => ?_, fun i => ?_, fun i => ?_, fun i => ?_, fun i => ?_, fun i => ?_, fun i => ?_, fun i => ?_, fun i => ?_, fun i => ?_, ?_, ?_, ?_, ?_, ?_, ?_, fun f i hf hi => ?_⟩
  · rw [tu_ne1 _ _ _ _ (by decide)]; exact b0
  · rw [tu_ne1 _ _ _ _ (by decide)]; exact b1 i
  · unfold tu; split; exact hv; exact b2_ i
  · rw [tu_ne1 _ _ _ _ (by decide)]; exact b3 i
  · rw [tu_ne1 _ _ _ _ (by decide)]; exact b4 i
  · rw [tu_ne1 _ _ _ _ (by decide)]; exact b5 i
  · rw [tu_ne1 _ _ _ _ (by decide)]; exact b6 i
  · rw [tu_ne1 _ _ _ _ (by decide)]; exact b7 i
  · rw [tu_ne1 _ _ _ _ (by decide)]; exact b8 i
  · rw [tu_ne1 _ _ _ _ (by decide)]; exact b9 i
  · rw [tu_ne1 _ _ _ _ (by decide)]; exact b10 i
  · rw [tu_ne1 _ _ _ _ (by decide)]; exact b11 i
  · rw [tu_ne1 _ _ _ _ (by decide)]; exact b12 i
  · rw [tu_ne1 _ _ _ _ (by decide)]; exact b13
  · rw [tu_ne1 _ _ _ _ (by decide)]; exact b14
  · rw [tu_ne1 _ _ _ _ (by decide)]; exact b15
  · rw [tu_ne1 _ _ _ _ (by decide)]; exact b16
  · rw [tu_ne1 _ _ _ _ (by decide)]; exact b17
  · rw [tu_ne1 _ _ _ _ (by decide)]; exact b18
  · rw [tu_ne1 _ _ _ _ (by decide)] at hi
    unfold tu; split
    · omega
    · exact b19 f i hf hi
theorem Bd.pu3 {T : ST} (hB : Bd T) {k v : Nat} (hk : k < T 12 0) (hv : v ≤ 99) : Bd (tu T 3 k v) := by
  obtain ⟨b0, b1, b2_, b3, b4, b5, b6, b7, b8, b9, b10, b11, b12, b13, b14, b15, b16, b17, b18, b19⟩ := hB
  refine ⟨?_, fun i => ?_, fun i => ?_, fun i => ?_, fun i => ?_, fun i => ?_, fun i => ?_, fun i => ?_, fun i => ?_, fun i => ?_, fun i => ?_, fun i => ?_, fun i => ?_, ?_, ?_, ?_, ?_, ?_, ?_, fun f i hf hi => ?_⟩
  · rw [tu_ne1 _ _ _ _ (by decide)]; exact b0
  · rw [tu_ne1 _ _ _ _ (by decide)]; exact b1 i
  · rw [tu_ne1 _ _ _ _ (by decide)]; exact b2_ i
  · rw [tu_ne1 _ _ _ _ (by decide)]; exact b3 i
  · unfold tu; split; exact hv; exact b4 i
  · rw [tu_ne1 _ _ _ _ (by decide)]; exact b5 i
  · rw [tu_ne1 _ _ _ _ (by decide)]; exact b6 i
  · rw [tu_ne1 _ _ _ _ (by decide)]; exact b7 i
  · rw [tu_ne1 _ _ _ _ (by decide)]; exact b8 i
  · rw [tu_ne1 _ _ _ _ (by decide)]; exact b9 i
  · rw [tu_ne1 _ _ _ _ (by decide)]; exact b10 i
  · rw [tu_ne1 _ _ _ _ (by decide)]; exact b11 i
  · rw [tu_ne1 _ _ _ _ (by decide)]; exact b12 i
  · rw [tu_ne1 _ _ _ _ (by decide)]; exact b13
  · rw [tu_ne1 _ _ _ _ (by decide)]; exact b14
  · rw [tu_ne1 _ _ _ _ (by decide)]; exact b15
  · rw [tu_ne1 _ _ _ _ (by decide)]; exact b16
  · rw [tu_ne1 _ _ _ _ (by decide)]; exact b17
  · rw [tu_ne1 _ _ _ _ (by decide)]; exact b18
  · rw [tu_ne1 _ _ _ _ (by decide)] at hi
    unfold tu; split
    · omega
    · exact b19 f i hf hi
theorem Bd.pu4 {T : ST} (hB : Bd T) {k v : Nat} (hk : k < T 12 0) (hv : v ≤ 1) : Bd (tu T 4 k v) := by
  obtain ⟨b0, b1, b2_, b3, b4, b5, b6, b7, b8, b9, b10, b11, b12, b13, b14, b15, b16, b17, b18, b19⟩ := hB
  refine ⟨?_, fun i => ?_, fun i => ?_, fun i => ?_, fun i => ?_, fun i => ?_, fun i => ?_, fun i => ?_, fun i => ?_, fun i => ?_, fun i => ?_, fun i => ?_, fun i => ?_, ?_, ?_, ?_, ?_, ?_, ?_, fun f i hf hi => ?_⟩
  · rw [tu_ne1 _ _ _ _ (by decide)]; exact b0
  · rw [tu_ne1 _ _ _ _ (by decide)]; exact b1 i
  · rw [tu_ne1 _ _ _ _ (by decide)]; exact b2_ i
  · rw [tu_ne1 _ _ _ _ (by decide)]; exact b3 i
  · rw [tu_ne1 _ _ _ _ (by decide)]; exact b4 i
  · unfold tu; split; exact hv; exact b5 i
  · rw [tu_ne1 _ _ _ _ (by decide)]; exact b6 i
  · rw [tu_ne1 _ _ _ _ (by decide)]; exact b7 i
  · rw [tu_ne1 _ _ _ _ (by decide)]; exact b8 i
  · rw [tu_ne1 _ _ _ _ (by decide)]; exact b9 i
  · rw [tu_ne1 _ _ _ _ (by decide)]; exact b10 i
  · rw [tu_ne1 _ _ _ _ (by decide)]; exact b11 i
  · rw [tu_ne1 _ _ _ _ (by decide)]; exact b12 i
  · rw [tu_ne1 _ _ _ _ (by decide)]; exact b13
  · rw [tu_ne1 _ _ _ _ (by decide)]; exact b14
  · rw [tu_ne1 _ _ _ _ (by decide)]; exact b15
  · rw [tu_ne1 _ _ _ _ (by decide)]; exact b16
  · rw [tu_ne1 _ _ _ _ (by decide)]; exact b17
  · rw [tu_ne1 _ _ _ _ (by decide)]; exact b18
  · rw [tu_ne1 _ _ _ _ (by decide)] at hi
    unfold tu; split
    · omega
    · exact b19 f i hf hi
theorem Bd.pu5 {T : ST} (hB : Bd T) {k v : Nat} (hk : k < T 12 0) (hv : v < 6) : Bd (tu T 5 k v) := by
  obtain ⟨b0, b1, b2_, b3, b4, b5, b6, b7, b8, b9, b10, b11, b12, b13, b14, b15, b16, b17, b18, b19⟩ := hB
  refine ⟨?_, fun i => ?_, fun i => ?_, fun i => ?_, fun i => ?_, fun i => ?_, fun i => ?_, fun i => ?_, fun i => ?_, fun i => ?_, fun i => ?_, fun i => ?_, fun i => ?_, ?_, ?_, ?_, ?_, ?_, ?_, fun f i hf hi => ?_⟩
  · rw [tu_ne1 _ _ _ _ (by decide)]; exact b0
  · rw [tu_ne1 _ _ _ _ (by decide)]; exact b1 i
  · rw [tu_ne1 _ _ _ _ (by decide)]; exact b2_ i
  · rw [tu_ne1 _ _ _ _ (by decide)]; exact b3 i
  · rw [tu_ne1 _ _ _ _ (by decide)]; exact b4 i
  · rw [tu_ne1 _ _ _ _ (by decide)]; exact b5 i
  · unfold tu; split; exact hv; exact b6 i
  · rw [tu_ne1 _ _ _ _ (by decide)]; exact b7 i
  · rw [tu_ne1 _ _ _ _ (by decide)]; exact b8 i
  · rw [tu_ne1 _ _ _ _ (by decide)]; exact b9 i
  · rw [tu_ne1 _ _ _ _ (by decide)]; exact b10 i
  · rw [tu_ne1 _ _ _ _ (by decide)]; exact b11 i
  · rw [tu_ne1 _ _ _ _ (by decide)]; exact b12 i
  · rw [tu_ne1 _ _ _ _ (by decide)]; exact b13
  · rw [tu_ne1 _ _ _ _ (by decide)]; exact b14
  · rw [tu_ne1 _ _ _ _ (by decide)]; exact b15
  · rw [tu_ne1 _ _ _ _ (by decide)]; exact b16
  · rw [tu_ne1 _ _ _ _ (by decide)]; exact b17
  · rw [tu_ne1 _ _ _ _ (by decide)]; exact b18
  · rw [tu_ne1 _ _ _ _ (by decide)] at hi
    unfold tu; split
    · omega
    · exact b19 f i hf hi
theorem Bd.pu6 {T : ST} (hB : Bd T) {k v : Nat} (hk : k < T 12 0) (hv : v ≤ 99) : Bd (tu T 6 k v) := by
  obtain ⟨b0, b1, b2_, b3, b4, b5, b6, b7, b8, b9, b10, b11, b12, b13, b14, b15, b16, b17, b18, b19⟩ := hB
  refine ⟨?_, fun i => ?_, fun i => ?_, fun i => ?_, fun i => ?_, fun i => ?_, fun i => ?_, fun i => ?_, fun i => ?_, fun i => ?_, fun i => ?_, fun i => ?_, fun i => ?_, ?_, ?_, ?_, ?_, ?_, ?_, fun f i hf hi => ?_⟩
  · rw [tu_ne1 _ _ _ _ (by decide)]; exact b0
  · rw [tu_ne1 _ _ _ _ (by decide)]; exact b1 i
  · rw [tu_ne1 _ _ _ _ (by decide)]; exact b2_ i
  · rw [tu_ne1 _ _ _ _ (by decide)]; exact b3 i
  · rw [tu_ne1 _ _ _ _ (by decide)]; exact b4 i
  · rw [tu_ne1 _ _ _ _ (by decide)]; exact b5 i
  · rw [tu_ne1 _ _ _ _ (by decide)]; exact b6 i
  · unfold tu; split; exact hv; exact b7 i
  · rw [tu_ne1 _ _ _ _ (by decide)]; exact b8 i
  · rw [tu_ne1 _ _ _ _ (by decide)]; exact b9 i
  · rw [tu_ne1 _ _ _ _ (by decide)]; exact b10 i
  · rw [tu_ne1 _ _ _ _ (by decide)]; exact b11 i
  · rw [tu_ne1 _ _ _ _ (by decide)]; exact b12 i
  · rw [tu_ne1 _ _ _ _ (by decide)]; exact b13
  · rw [tu_ne1 _ _ _ _ (by decide)]; exact b14
  · rw [tu_ne1 _ _ _ _ (by decide)]; exact b15
  · rw [tu_ne1 _ _ _ _ (by decide)]; exact b16
  · rw [tu_ne1 _ _ _ _ (by decide)]; exact b17
  · rw [tu_ne1 _ _ _ _ (by decide)]; exact b18
  · rw [tu_ne1 _ _ _ _ (by decide)] at hi
    unfold tu; split
    · omega
    · exact b19 f i hf hi
theorem Bd.pu7 {T : ST} (hB : Bd T) {k v : Nat} (hv : v ≤ 99) : Bd (tu T 7 k v) := by
  obtain ⟨b0, b1, b2_, b3, b4, b5, b6, b7, b8, b9, b10, b11, b12, b13, b14, b15, b16, b17, b18, b19⟩ := hB
  refine ⟨?_, fun i => ?_, fun i => ?_, fun i => ?_, fun i => ?_, fun i => ?_, fun i => ?_, fun i => ?_, fun i => ?_, fun i => ?_, fun i => ?_, fun i => ?_, fun i => ?_, ?_, ?_, ?_, ?_, ?_, ?_, fun f i hf hi => ?_⟩
  · rw [tu_ne1 _ _ _ _ (by decide)]; exact b0
  · rw [tu_ne1 _ _ _ _ (by decide)]; exact b1 i
  · rw [tu_ne1 _ _ _ _ (by decide)]; exact b2_ i
  · rw [tu_ne1 _ _ _ _ (by decide)]; exact b3 i
  · rw [tu_ne1 _ _ _ _ (by decide)]; exact b4 i
  · rw [tu_ne1 _ _ _ _ (by decide)]; exact b5 i
  · rw [tu_ne1 _ _ _ _ (by decide)]; exact b6 i
  · rw [tu_ne1 _ _ _ _ (by decide)]; exact b7 i
  · unfold tu; split; exact hv; exact b8 i
  · rw [tu_ne1 _ _ _ _ (by decide)]; exact b9 i
  · rw [tu_ne1 _ _ _ _ (by decide)]; exact b10 i
  · rw [tu_ne1 _ _ _ _ (by decide)]; exact b11 i
  · rw [tu_ne1 _ _ _ _ (by decide)]; exact b12 i
  · rw [tu_ne1 _ _ _ _ (by decide)]; exact b13
  · rw [tu_ne1 _ _ _ _ (by decide)]; exact b14
  · rw [tu_ne1 _ _ _ _ (by decide)]; exact b15
  · rw [tu_ne1 _ _ _ _ (by decide)]; exact b16
  · rw [tu_ne1 _ _ _ _ (by decide)]; exact b17
  · rw [tu_ne1 _ _ _ _ (by decide)]; exact b18
  · rw [tu_ne1 _ _ _ _ (by decide)] at hi
    rw [tu_ne1 _ _ _ _ (by omega)]; exact b19 f i hf hi
theorem Bd.pu8 {T : ST} (hB : Bd T) {k v : Nat} (hv : v ≤ 12) : Bd (tu T 8 k v) := by
  obtain ⟨b0, b1, b2_, b3, b4, b5, b6, b7, b8, b9, b10, b11, b12, b13, b14, b15, b16, b17, b18, b19⟩ := hB
  refine ⟨?_, fun i => ?_, fun i => ?_, fun i => ?_, fun i => ?_, fun i => ?_, fun i => ?_, fun i => ?_, fun i => ?_, fun i => ?_, fun i => ?_, fun i => ?_, fun i => ?_, ?_, ?_, ?_, ?_, ?_, ?_, fun f i hf hi => ?_⟩
  · rw [tu_ne1 _ _ _ _ (by decide)]; exact b0
  · rw [tu_ne1 _ _ _ _ (by decide)]; exact b1 i
  · rw [tu_ne1 _ _ _ _ (by decide)]; exact b2_ i
  · rw [tu_ne1 _ _ _ _ (by decide)]; exact b3 i
  · rw [tu_ne1 _ _ _ _ (by decide)]; exact b4 i
  · rw [tu_ne1 _ _ _ _ (by decide)]; exact b5 i
  · rw [tu_ne1 _ _ _ _ (by decide)]; exact b6 i
  · rw [tu_ne1 _ _ _ _ (by decide)]; exact b7 i
  · rw [tu_ne1 _ _ _ _ (by decide)]; exact b8 i
  · unfold tu; split; exact hv; exact b9 i
  · rw [tu_ne1 _ _ _ _ (by decide)]; exact b10 i
  · rw [tu_ne1 _ _ _ _ (by decide)]; exact b11 i
  · rw [tu_ne1 _ _ _ _ (by decide)]; exact b12 i
  · rw [tu_ne1 _ _ _ _ (by decide)]; exact b13
  · rw [tu_ne1 _ _ _ _ (by decide)]; exact b14
  · rw [tu_ne1 _ _ _ _ (by decide)]; exact b15
  · rw [tu_ne1 _ _ _ _ (by decide)]; exact b16
  · rw [tu_ne1 _ _ _ _ (by decide)]; exact b17
  · rw [tu_ne1 _ _ _ _ (by decide)]; exact b18
  · rw [tu_ne1 _ _ _ _ (by decide)] at hi
    rw [tu_ne1 _ _ _ _ (by omega)]; exact b19 f i hf hi
theorem Bd.pu9 {T : ST} (hB : Bd T) {k v : Nat} (hv : v ≤ 20) : Bd (tu T 9 k v) := by
  obtain ⟨b0, b1, b2_, b3, b4, b5, b6, b7, b8, b9, b10, b11, b12, b13, b14, b15, b16, b17, b18, b19⟩ := hB
  refine ⟨?_, fun i => ?_, fun i => ?_, fun i => ?_, fun i => ?_, fun i => ?_, fun i => ?_, fun i => ?_, fun i => ?_, fun i => ?_, fun i => ?_, fun i => ?_, fun i => ?_, ?_, ?_, ?_, ?_, ?_, ?_, fun f i hf hi => ?_⟩
  · rw [tu_ne1 _ _ _ _ (by decide)]; exact b0
  · rw [tu_ne1 _ _ _ _ (by decide)]; exact b1 i
  · rw [tu_ne1 _ _ _ _ (by decide)]; exact b2_ i
  · rw [tu_ne1 _ _ _ _ (by decide)]; exact b3 i
  · rw [tu_ne1 _ _ _ _ (by decide)]; exact b4 i
  · rw [tu_ne1 _ _ _ _ (by decide)]; exact b5 i
  · rw [tu_ne1 _ _ _ _ (by decide)]; exact b6 i
  · rw [tu_ne1 _ _ _ _ (by decide)]; exact b7 i
  · rw [tu_ne1 _ _ _ _ (by decide)]; exact b8 i
  · rw [tu_ne1 _ _ _ _ (by decide)]; exact b9 i
  · unfold tu; split; exact hv; exact b10 i
  · rw [tu_ne1 _ _ _ _ (by decide)]; exact b11 i
  · rw [tu_ne1 _ _ _ _ (by decide)]; exact b12 i
  · rw [tu_ne1 _ _ _ _ (by decide)]; exact b13
  · rw [tu_ne1 _ _ _ _ (by decide)]; exact b14
  · rw [tu_ne1 _ _ _ _ (by decide)]; exact b15
  · rw [tu_ne1 _ _ _ _ (by decide)]; exact b16
  · rw [tu_ne1 _ _ _ _ (by decide)]; exact b17
  · rw [tu_ne1 _ _ _ _ (by decide)]; exact b18
  · rw [tu_ne1 _ _ _ _ (by decide)] at hi
    rw [tu_ne1 _ _ _ _ (by omega)]; exact b19 f i hf hi
theorem Bd.pu10 {T : ST} (hB : Bd T) {k v : Nat} (hv : v ≤ 9999) : Bd (tu T 10 k v) := by
  obtain ⟨b0, b1, b2_, b3, b4, b5, b6, b7, b8, b9, b10, b11, b12, b13, b14, b15, b16, b17, b18, b19⟩ := hB
  refine ⟨?_, fun i => ?_, fun i => ?_, fun i => ?_, fun i => ?_, fun i => ?_, fun i => ?_, fun i => ?_, fun i => ?_, fun i => ?_, fun i => ?_, fun i => ?_, fun i => ?_, ?_, ?_, ?_, ?_, ?_, ?_, fun f i hf hi => ?_⟩
  · rw [tu_ne1 _ _ _ _ (by decide)]; exact b0
  · rw [tu_ne1 _ _ _ _ (by decide)]; exact b1 i
  · rw [tu_ne1 _ _ _ _ (by decide)]; exact b2_ i
  · rw [tu_ne1 _ _ _ _ (by decide)]; exact b3 i
  · rw [tu_ne1 _ _ _ _ (by decide)]; exact b4 i
  · rw [tu_ne1 _ _ _ _ (by decide)]; exact b5 i
  · rw [tu_ne1 _ _ _ _ (by decide)]; exact b6 i
  · rw [tu_ne1 _ _ _ _ (by decide)]; exact b7 i
  · rw [tu_ne1 _ _ _ _ (by decide)]; exact b8 i
  · rw [tu_ne1 _ _ _ _ (by decide)]; exact b9 i
  · rw [tu_ne1 _ _ _ _ (by decide)]; exact b10 i
  · unfold tu; split; exact hv; exact b11 i
  · rw [tu_ne1 _ _ _ _ (by decide)]; exact b12 i
  · rw [tu_ne1 _ _ _ _ (by decide)]; exact b13
  · rw [tu_ne1 _ _ _ _ (by decide)]; exact b14
  · rw [tu_ne1 _ _ _ _ (by decide)]; exact b15
  · rw [tu_ne1 _ _ _ _ (by decide)]; exact b16
  · rw [tu_ne1 _ _ _ _ (by decide)]; exact b17
  · rw [tu_ne1 _ _ _ _ (by decide)]; exact b18
  · rw [tu_ne1 _ _ _ _ (by decide)] at hi
    rw [tu_ne1 _ _ _ _ (by omega)]; exact b19 f i hf hi
theorem Bd.pu11 {T : ST} (hB : Bd T) {k v : Nat} (hv : v ≤ 9999) : Bd (tu T 11 k v) := by
  obtain ⟨b0, b1, b2_, b3, b4, b5, b6, b7, b8, b9, b10, b11, b12, b13, b14, b15, b16, b17, b18, b19⟩ := hB
  refine ⟨?_, fun i => ?_, fun i => ?_, fun i => ?_, fun i => ?_, fun i => ?_, fun i => ?_, fun i => ?_, fun i => ?_, fun i => ?_, fun i => ?_, fun i => ?_, fun i => ?_, ?_, ?_, ?_, ?_, ?_, ?_, fun f i hf hi => ?_⟩
  · rw [tu_ne1 _ _ _ _ (by decide)]; exact b0
  · rw [tu_ne1 _ _ _ _ (by decide)]; exact b1 i
  · rw [tu_ne1 _ _ _ _ (by decide)]; exact b2_ i
  · rw [tu_ne1 _ _ _ _ (by decide)]; exact b3 i
  · rw [tu_ne1 _ _ _ _ (by decide)]; exact b4 i
  · rw [tu_ne1 _ _ _ _ (by decide)]; exact b5 i
  · rw [tu_ne1 _ _ _ _ (by decide)]; exact b6 i
  · rw [tu_ne1 _ _ _ _ (by decide)]; exact b7 i
  · rw [tu_ne1 _ _ _ _ (by decide)]; exact b8 i
  · rw [tu_ne1 _ _ _ _ (by decide)]; exact b9 i
  · rw [tu_ne1 _ _ _ _ (by decide)]; exact b10 i
  · rw [tu_ne1 _ _ _ _ (by decide)]; exact b11 i
  · unfold tu; split; exact hv; exact b12 i
  · rw [tu_ne1 _ _ _ _ (by decide)]; exact b13
  · rw [tu_ne1 _ _ _ _ (by decide)]; exact b14
  · rw [tu_ne1 _ _ _ _ (by decide)]; exact b15
  · rw [tu_ne1 _ _ _ _ (by decide)]; exact b16
  · rw [tu_ne1 _ _ _ _ (by decide)]; exact b17
  · rw [tu_ne1 _ _ _ _ (by decide)]; exact b18
  · rw [tu_ne1 _ _ _ _ (by decide)] at hi
    rw [tu_ne1 _ _ _ _ (by omega)]; exact b19 f i hf hi
theorem Bd.ps0 {T : ST} (hB : Bd T) {v : Nat} (hv : v ≤ 12) (hz : T 12 0 ≤ v) : Bd (tu T 12 0 v) := by
  obtain ⟨b0, b1, b2_, b3, b4, b5, b6, b7, b8, b9, b10, b11, b12, b13, b14, b15, b16, b17, b18, b19⟩ := hB
  refine ⟨?_, fun i => ?_, fun i => ?_, fun i => ?_, fun i => ?_, fun i => ?_, fun i => ?_, fun i => ?_, fun i => ?_, fun i => ?_, fun i => ?_, fun i => ?_, fun i => ?_, ?_, ?_, ?_, ?_, ?_, ?_, fun f i hf hi => ?_⟩
  · rw [tu_at]; exact hv
  · rw [tu_ne1 _ _ _ _ (by decide)]; exact b1 i
  · rw [tu_ne1 _ _ _ _ (by decide)]; exact b2_ i
  · rw [tu_ne1 _ _ _ _ (by decide)]; exact b3 i
  · rw [tu_ne1 _ _ _ _ (by decide)]; exact b4 i
  · rw [tu_ne1 _ _ _ _ (by decide)]; exact b5 i
  · rw [tu_ne1 _ _ _ _ (by decide)]; exact b6 i
  · rw [tu_ne1 _ _ _ _ (by decide)]; exact b7 i
  · rw [tu_ne1 _ _ _ _ (by decide)]; exact b8 i
  · rw [tu_ne1 _ _ _ _ (by decide)]; exact b9 i
  · rw [tu_ne1 _ _ _ _ (by decide)]; exact b10 i
  · rw [tu_ne1 _ _ _ _ (by decide)]; exact b11 i
  · rw [tu_ne1 _ _ _ _ (by decide)]; exact b12 i
  · rw [tu_nk _ _ _ _ (by decide)]; exact b13
  · rw [tu_nk _ _ _ _ (by decide)]; exact b14
  · rw [tu_nk _ _ _ _ (by decide)]; exact b15
  · rw [tu_nk _ _ _ _ (by decide)]; exact b16
  · rw [tu_nk _ _ _ _ (by decide)]; exact b17
  · rw [tu_nk _ _ _ _ (by decide)]; exact b18
  · rw [tu_at] at hi
    rw [tu_ne1 _ _ _ _ (by omega)]; exact b19 f i hf (by omega)
theorem Bd.ps1 {T : ST} (hB : Bd T) {v : Nat} (hv : v ≤ 12) : Bd (tu T 12 1 v) := by
  obtain ⟨b0, b1, b2_, b3, b4, b5, b6, b7, b8, b9, b10, b11, b12, b13, b14, b15, b16, b17, b18, b19⟩ := hB
  refine ⟨?_, fun i => ?_, fun i => ?_, fun i => ?_, fun i => ?_, fun i => ?_, fun i => ?_, fun i => ?_, fun i => ?_, fun i => ?_, fun i => ?_, fun i => ?_, fun i => ?_, ?_, ?_, ?_, ?_, ?_, ?_, fun f i hf hi => ?_⟩
  · rw [tu_nk _ _ _ _ (by decide)]; exact b0
  · rw [tu_ne1 _ _ _ _ (by decide)]; exact b1 i
  · rw [tu_ne1 _ _ _ _ (by decide)]; exact b2_ i
  · rw [tu_ne1 _ _ _ _ (by decide)]; exact b3 i
  · rw [tu_ne1 _ _ _ _ (by decide)]; exact b4 i
  · rw [tu_ne1 _ _ _ _ (by decide)]; exact b5 i
  · rw [tu_ne1 _ _ _ _ (by decide)]; exact b6 i
  · rw [tu_ne1 _ _ _ _ (by decide)]; exact b7 i
  · rw [tu_ne1 _ _ _ _ (by decide)]; exact b8 i
  · rw [tu_ne1 _ _ _ _ (by decide)]; exact b9 i
  · rw [tu_ne1 _ _ _ _ (by decide)]; exact b10 i
  · rw [tu_ne1 _ _ _ _ (by decide)]; exact b11 i
  · rw [tu_ne1 _ _ _ _ (by decide)]; exact b12 i
  · rw [tu_at]; exact hv
  · rw [tu_nk _ _ _ _ (by decide)]; exact b14
  · rw [tu_nk _ _ _ _ (by decide)]; exact b15
  · rw [tu_nk _ _ _ _ (by decide)]; exact b16
  · rw [tu_nk _ _ _ _ (by decide)]; exact b17
  · rw [tu_nk _ _ _ _ (by decide)]; exact b18
  · rw [tu_nk _ _ _ _ (by decide)] at hi
    rw [tu_ne1 _ _ _ _ (by omega)]; exact b19 f i hf hi
theorem Bd.ps2 {T : ST} (hB : Bd T) {v : Nat} (hv : v ≤ 100) : Bd (tu T 12 2 v) := by
  obtain ⟨b0, b1, b2_, b3, b4, b5, b6, b7, b8, b9, b10, b11, b12, b13, b14, b15, b16, b17, b18, b19⟩ := hB
  refine ⟨?_, fun i => ?_, fun i => ?_, fun i => ?_, fun i => ?_, fun i => ?_, fun i => ?_, fun i => ?_, fun i => ?_, fun i => ?_, fun i => ?_, fun i => ?_, fun i => ?_, ?_, ?_, ?_, ?_, ?_, ?_, fun f i hf hi => ?_⟩
  · rw [tu_nk _ _ _ _ (by decide)]; exact b0
  · rw [tu_ne1 _ _ _ _ (by decide)]; exact b1 i
  · rw [tu_ne1 _ _ _ _ (by decide)]; exact b2_ i
  · rw [tu_ne1 _ _ _ _ (by decide)]; exact b3 i
  · rw [tu_ne1 _ _ _ _ (by decide)]; exact b4 i
  · rw [tu_ne1 _ _ _ _ (by decide)]; exact b5 i
  · rw [tu_ne1 _ _ _ _ (by decide)]; exact b6 i
  · rw [tu_ne1 _ _ _ _ (by decide)]; exact b7 i
  · rw [tu_ne1 _ _ _ _ (by decide)]; exact b8 i
  · rw [tu_ne1 _ _ _ _ (by decide)]; exact b9 i
  · rw [tu_ne1 _ _ _ _ (by decide)]; exact b10 i
  · rw [tu_ne1 _ _ _ _ (by decide)]; exact b11 i
  · rw [tu_ne1 _ _ _ _ (by decide)]; exact b12 i
  · rw [tu_nk _ _ _ _ (by decide)]; exact b13
  · rw [tu_at]; exact hv
  · rw [tu_nk _ _ _ _ (by decide)]; exact b15
  · rw [tu_nk _ _ _ _ (by decide)]; exact b16
  · rw [tu_nk _ _ _ _ (by decide)]; exact b17
  · rw [tu_nk _ _ _ _ (by decide)]; exact b18
  · rw [tu_nk _ _ _ _ (by decide)] at hi
    rw [tu_ne1 _ _ _ _ (by omega)]; exact b19 f i hf hi
theorem Bd.ps3 {T : ST} (hB : Bd T) {v : Nat} (hv : v ≤ 9999) : Bd (tu T 12 3 v) := by
  obtain ⟨b0, b1, b2_, b3, b4, b5, b6, b7, b8, b9, b10, b11, b12, b13, b14, b15, b16, b17, b18, b19⟩ := hB
  refine ⟨?_, fun i => ?_, fun i => ?_, fun i => ?_, fun i => ?_, fun i => ?_, fun i => ?_, fun i => ?_, fun i => ?_, fun i => ?_, fun i => ?_, fun i => ?_, fun i => ?_, ?_, ?_, ?_, ?_, ?_, ?_, fun f i hf hi => ?_⟩
  · rw [tu_nk _ _ _ _ (by decide)]; exact b0
  · rw [tu_ne1 _ _ _ _ (by decide)]; exact b1 i
  · rw [tu_ne1 _ _ _ _ (by decide)]; exact b2_ i
  · rw [tu_ne1 _ _ _ _ (by decide)]; exact b3 i
  · rw [tu_ne1 _ _ _ _ (by decide)]; exact b4 i
  · rw [tu_ne1 _ _ _ _ (by decide)]; exact b5 i
  · rw [tu_ne1 _ _ _ _ (by decide)]; exact b6 i
  · rw [tu_ne1 _ _ _ _ (by decide)]; exact b7 i
  · rw [tu_ne1 _ _ _ _ (by decide)]; exact b8 i
  · rw [tu_ne1 _ _ _ _ (by decide)]; exact b9 i
  · rw [tu_ne1 _ _ _ _ (by decide)]; exact b10 i
  · rw [tu_ne1 _ _ _ _ (by decide)]; exact b11 i
  · rw [tu_ne1 _ _ _ _ (by decide)]; exact b12 i
  · rw [tu_nk _ _ _ _ (by decide)]; exact b13
  · rw [tu_nk _ _ _ _ (by decide)]; exact b14
  · rw [tu_at]; exact hv
  · rw [tu_nk _ _ _ _ (by decide)]; exact b16
  · rw [tu_nk _ _ _ _ (by decide)]; exact b17
  · rw [tu_nk _ _ _ _ (by decide)]; exact b18
  · rw [tu_nk _ _ _ _ (by decide)] at hi
    rw [tu_ne1 _ _ _ _ (by omega)]; exact b19 f i hf hi
theorem Bd.ps4 {T : ST} (hB : Bd T) {v : Nat} (hv : v ≤ 594) : Bd (tu T 12 4 v) := by
  obtain ⟨b0, b1, b2_, b3, b4, b5, b6, b7, b8, b9, b10, b11, b12, b13, b14, b15, b16, b17, b18, b19⟩ := hB
  refine ⟨?_, fun i => ?_, fun i => ?_, fun i => ?_, fun i => ?_, fun i => ?_, fun i => ?_, fun i => ?_, fun i => ?_, fun i => ?_, fun i => ?_, fun i => ?_, fun i => ?_, ?_, ?_, ?_, ?_, ?_, ?_, fun f i hf hi => ?_⟩
  · rw [tu_nk _ _ _ _ (by decide)]; exact b0
  · rw [tu_ne1 _ _ _ _ (by decide)]; exact b1 i
  · rw [tu_ne1 _ _ _ _ (by decide)]; exact b2_ i
  · rw [tu_ne1 _ _ _ _ (by decide)]; exact b3 i
  · rw [tu_ne1 _ _ _ _ (by decide)]; exact b4 i
  · rw [tu_ne1 _ _ _ _ (by decide)]; exact b5 i
  · rw [tu_ne1 _ _ _ _ (by decide)]; exact b6 i
  · rw [tu_ne1 _ _ _ _ (by decide)]; exact b7 i
  · rw [tu_ne1 _ _ _ _ (by decide)]; exact b8 i
  · rw [tu_ne1 _ _ _ _ (by decide)]; exact b9 i
  · rw [tu_ne1 _ _ _ _ (by decide)]; exact b10 i
  · rw [tu_ne1 _ _ _ _ (by decide)]; exact b11 i
  · rw [tu_ne1 _ _ _ _ (by decide)]; exact b12 i
  · rw [tu_nk _ _ _ _ (by decide)]; exact b13
  · rw [tu_nk _ _ _ _ (by decide)]; exact b14
  · rw [tu_nk _ _ _ _ (by decide)]; exact b15
  · rw [tu_at]; exact hv
  · rw [tu_nk _ _ _ _ (by decide)]; exact b17
  · rw [tu_nk _ _ _ _ (by decide)]; exact b18
  · rw [tu_nk _ _ _ _ (by decide)] at hi
    rw [tu_ne1 _ _ _ _ (by omega)]; exact b19 f i hf hi
theorem Bd.ps5 {T : ST} (hB : Bd T) {v : Nat} (hv : v < 60) : Bd (tu T 12 5 v) := by
  obtain ⟨b0, b1, b2_, b3, b4, b5, b6, b7, b8, b9, b10, b11, b12, b13, b14, b15, b16, b17, b18, b19⟩ := hB
  refine ⟨?_, fun i => ?_, fun i => ?_, fun i => ?_, fun i => ?_, fun i => ?_, fun i => ?_, fun i => ?_, fun i => ?_, fun i => ?_, fun i => ?_, fun i => ?_, fun i => ?_, ?_, ?_, ?_, ?_, ?_, ?_, fun f i hf hi => ?_⟩
  · rw [tu_nk _ _ _ _ (by decide)]; exact b0
  · rw [tu_ne1 _ _ _ _ (by decide)]; exact b1 i
  · rw [tu_ne1 _ _ _ _ (by decide)]; exact b2_ i
  · rw [tu_ne1 _ _ _ _ (by decide)]; exact b3 i
  · rw [tu_ne1 _ _ _ _ (by decide)]; exact b4 i
  · rw [tu_ne1 _ _ _ _ (by decide)]; exact b5 i
  · rw [tu_ne1 _ _ _ _ (by decide)]; exact b6 i
  · rw [tu_ne1 _ _ _ _ (by decide)]; exact b7 i
  · rw [tu_ne1 _ _ _ _ (by decide)]; exact b8 i
  · rw [tu_ne1 _ _ _ _ (by decide)]; exact b9 i
  · rw [tu_ne1 _ _ _ _ (by decide)]; exact b10 i
  · rw [tu_ne1 _ _ _ _ (by decide)]; exact b11 i
  · rw [tu_ne1 _ _ _ _ (by decide)]; exact b12 i
  · rw [tu_nk _ _ _ _ (by decide)]; exact b13
  · rw [tu_nk _ _ _ _ (by decide)]; exact b14
  · rw [tu_nk _ _ _ _ (by decide)]; exact b15
  · rw [tu_nk _ _ _ _ (by decide)]; exact b16
  · rw [tu_at]; exact hv
  · rw [tu_nk _ _ _ _ (by decide)]; exact b18
  · rw [tu_nk _ _ _ _ (by decide)] at hi
    rw [tu_ne1 _ _ _ _ (by omega)]; exact b19 f i hf hi
theorem Bd.ps6 {T : ST} (hB : Bd T) {v : Nat} (hv : v ≤ 60) : Bd (tu T 12 6 v) := by
  obtain ⟨b0, b1, b2_, b3, b4, b5, b6, b7, b8, b9, b10, b11, b12, b13, b14, b15, b16, b17, b18, b19⟩ := hB
  refine ⟨?_, fun i => ?_, fun i => ?_, fun i => ?_, fun i => ?_, fun i => ?_, fun i => ?_, fun i => ?_, fun i => ?_, fun i => ?_, fun i => ?_, fun i => ?_, fun i => ?_, ?_, ?_, ?_, ?_, ?_, ?_, fun f i hf hi => ?_⟩
  · rw [tu_nk _ _ _ _ (by decide)]; exact b0
  · rw [tu_ne1 _ _ _ _ (by decide)]; exact b1 i
  · rw [tu_ne1 _ _ _ _ (by decide)]; exact b2_ i
  · rw [tu_ne1 _ _ _ _ (by decide)]; exact b3 i
  · rw [tu_ne1 _ _ _ _ (by decide)]; exact b4 i
  · rw [tu_ne1 _ _ _ _ (by decide)]; exact b5 i
  · rw [tu_ne1 _ _ _ _ (by decide)]; exact b6 i
  · rw [tu_ne1 _ _ _ _ (by decide)]; exact b7 i
  · rw [tu_ne1 _ _ _ _ (by decide)]; exact b8 i
  · rw [tu_ne1 _ _ _ _ (by decide)]; exact b9 i
  · rw [tu_ne1 _ _ _ _ (by decide)]; exact b10 i
  · rw [tu_ne1 _ _ _ _ (by decide)]; exact b11 i
  · rw [tu_ne1 _ _ _ _ (by decide)]; exact b12 i
  · rw [tu_nk _ _ _ _ (by decide)]; exact b13
  · rw [tu_nk _ _ _ _ (by decide)]; exact b14
  · rw [tu_nk _ _ _ _ (by decide)]; exact b15
  · rw [tu_nk _ _ _ _ (by decide)]; exact b16
  · rw [tu_nk _ _ _ _ (by decide)]; exact b17
  · rw [tu_at]; exact hv
  · rw [tu_nk _ _ _ _ (by decide)] at hi
    rw [tu_ne1 _ _ _ _ (by omega)]; exact b19 f i hf hi
theorem Bd.wet {T : ST} (hB : Bd T) (w : Nat) : ∀ i, i ≤ T 12 0 → Bd (wetT T w i)
  | 0, _ => hB
  | i + 1, h => by
    have ih := Bd.wet hB w i (by omega)
    rw [wetT, wetS]
    split
    · exact ih.pu2 (by rw [wetT_ne _ _ (by decide)]; omega) (by omega)
    · exact ih
def wthT (T : ST) (s : Int32) : ST := if drN (dN s) % 100 < T 12 2 then wetT T (drN (dN (dN s)) % 6) (T 12 0) else T
def wthS (T : ST) (s : Int32) : Int32 := if drN (dN s) % 100 < T 12 2 then dN (dN s) else dN s
theorem Bd.wth {T : ST} (hB : Bd T) (s : Int32) : Bd (wthT T s) := by unfold wthT; split; exact hB.wet _ _ (Nat.le_refl _); exact hB
theorem lp_weather {E : EV} {Q : OC → AH → Prop} {a w : Nat} {T : ST} {sd : Int32} (hB : Bd T) (hw : w < 6) : ∀ (k i : Nat) (G : AH), T 12 0 - i < k → i ≤ T 12 0 → Isl G a (wetT T w i) sd → (∀ G1, Isl G1 a (wetT T w (T 12 0)) sd → Fr G G1 a → Q (.inl none) G1) → Wp E 2 0 0 kX1_passWeather Q G (0, 0) 25 [.ref a, .int (nI w), .int (nI i)] [] := by
  intro k
  induction k with
  | zero => intro i G h; exact absurd h (by omega)
  | succ k ih =>
    intro i G hk hi hI hQ
    obtain ⟨i0, i1, i2, i3, i4, i5, i6, i7, i8, i9, i10, i11, i12, i13⟩ := id hI
    have e0 : wetT T w i 12 0 = T 12 0 := wetT_ne T w (by decide) 0 i
    have hBw := hB.wet w i hi
    have hb3 := hBw.2.2.2.1 i
    have hb2 := hBw.2.2.1 i
    have h12 := hB.1
    refine w_iload_n dX1_passWeather_25 rfl ?_
    refine w_aload_n dX1_passWeather_26 rfl ?_
    refine w_getf dX1_passWeather_27 fl_X1_52 (by first | assumption | exact gs_at | (rw [gs_ne (by omega)]; (first | assumption | exact gs_at | (rw [gs_ne (by omega)]; (first | assumption | exact gs_at | (rw [gs_ne (by omega)]; (first | assumption | exact gs_at | (rw [gs_ne (by omega)]; (first | assumption | exact gs_at))))))))) rfl ?_
    refine w_icmp_ge (tgt := 74) dX1_passWeather_30 (by decide) (fun c_30 => ?_) (fun c_30 => ?_)
    · try simp (disch := omega) only [nI_b2, Decidable.not_not, nI_ltI, nI_leI, nI_eq, ge_iff_le, gt_iff_lt, ne_eq, Nat.not_lt, Nat.not_le] at c_30
      refine w_vret dX1_passWeather_74 rfl (Nat.le_of_ble_eq_true rfl) (Nat.le_of_ble_eq_true rfl) ?_
      rw [show i = T 12 0 by omega] at hI
      exact hQ G hI Fr.rf
    · try simp (disch := omega) only [nI_b2, Decidable.not_not, nI_ltI, nI_leI, nI_eq, ge_iff_le, gt_iff_lt, ne_eq, Nat.not_lt, Nat.not_le] at c_30
      refine w_aload_n dX1_passWeather_33 rfl ?_
      refine w_getf dX1_passWeather_34 fl_X1_15 (by first | assumption | exact gs_at | (rw [gs_ne (by omega)]; (first | assumption | exact gs_at | (rw [gs_ne (by omega)]; (first | assumption | exact gs_at | (rw [gs_ne (by omega)]; (first | assumption | exact gs_at | (rw [gs_ne (by omega)]; (first | assumption | exact gs_at))))))))) rfl ?_
      refine w_iload_n dX1_passWeather_37 rfl ?_
      refine wN2u dX1_passWeather_38 lk_X1_83 rfl (c_atN (by first | assumption | exact gs_at | (rw [gs_ne (by omega)]; (first | assumption | exact gs_at | (rw [gs_ne (by omega)]; (first | assumption | exact gs_at | (rw [gs_ne (by omega)]; (first | assumption | exact gs_at | (rw [gs_ne (by omega)]; (first | assumption | exact gs_at))))))))) (by omega) (by decide)) (Nat.le_of_ble_eq_true rfl) (Nat.le_of_ble_eq_true rfl) (Nat.le_of_ble_eq_true rfl) (Nat.le_of_ble_eq_true rfl) ?_
      refine w_iload_n dX1_passWeather_41 rfl ?_
      refine w_icmp_ne (tgt := 68) dX1_passWeather_42 (by decide) (fun c_42 => ?_) (fun c_42 => ?_)
      · try simp (disch := omega) only [nI_b2, Decidable.not_not, nI_ltI, nI_leI, nI_eq, ge_iff_le, gt_iff_lt, ne_eq, Nat.not_lt, Nat.not_le] at c_42
        first | refine w_iinc_2 dX1_passWeather_68 (nI_inc _) rfl ?_ | refine w_iinc_2 dX1_passWeather_68 rfl rfl ?_
        refine w_goto (tgt := 25) dX1_passWeather_71 (by decide) ?_
        first
          | exact ih (i + 1) G1 (by omega) (by omega) (hI1.congr (by rw [wetT, wetS, if_pos c_42, Nat.min_def])) (fun G2 h1 h2 => hQ G2 h1 (hF1.tr h2))
          | exact ih (i + 1) G (by omega) (by omega) (hI.congr (by rw [wetT, wetS, if_neg c_42])) hQ
      · try simp (disch := omega) only [nI_b2, Decidable.not_not, nI_ltI, nI_leI, nI_eq, ge_iff_le, gt_iff_lt, ne_eq, Nat.not_lt, Nat.not_le] at c_42
        refine w_aload_n dX1_passWeather_45 rfl ?_
        refine w_getf dX1_passWeather_46 fl_X1_18 (by first | assumption | exact gs_at | (rw [gs_ne (by omega)]; (first | assumption | exact gs_at | (rw [gs_ne (by omega)]; (first | assumption | exact gs_at | (rw [gs_ne (by omega)]; (first | assumption | exact gs_at | (rw [gs_ne (by omega)]; (first | assumption | exact gs_at))))))))) rfl ?_
        refine w_iload_n dX1_passWeather_49 rfl ?_
        refine w_bipush (v := nI 99) dX1_passWeather_50 (by decide) ?_
        refine w_aload_n dX1_passWeather_52 rfl ?_
        refine w_getf dX1_passWeather_53 fl_X1_18 (by first | assumption | exact gs_at | (rw [gs_ne (by omega)]; (first | assumption | exact gs_at | (rw [gs_ne (by omega)]; (first | assumption | exact gs_at | (rw [gs_ne (by omega)]; (first | assumption | exact gs_at | (rw [gs_ne (by omega)]; (first | assumption | exact gs_at))))))))) rfl ?_
        refine w_iload_n dX1_passWeather_56 rfl ?_
        refine wN2u dX1_passWeather_57 lk_X1_83 rfl (c_atN (by first | assumption | exact gs_at | (rw [gs_ne (by omega)]; (first | assumption | exact gs_at | (rw [gs_ne (by omega)]; (first | assumption | exact gs_at | (rw [gs_ne (by omega)]; (first | assumption | exact gs_at | (rw [gs_ne (by omega)]; (first | assumption | exact gs_at))))))))) (by omega) (by decide)) (Nat.le_of_ble_eq_true rfl) (Nat.le_of_ble_eq_true rfl) (Nat.le_of_ble_eq_true rfl) (Nat.le_of_ble_eq_true rfl) ?_
        refine w_iconst (v := nI 2) dX1_passWeather_60 (by decide) ?_
        first | refine w_iaddN dX1_passWeather_61 ?_ | refine w_iadd dX1_passWeather_61 ?_
        refine wJ2u dX1_passWeather_62 lk_X1_136 rfl (c_min (by omega) (by omega)) (Nat.le_of_ble_eq_true rfl) (Nat.le_of_ble_eq_true rfl) (Nat.le_of_ble_eq_true rfl) (Nat.le_of_ble_eq_true rfl) ?_
        refine wN3d dX1_passWeather_65 lk_X1_79 rfl (c_pu2 hI (by omega)) (Nat.le_of_ble_eq_true rfl) (Nat.le_of_ble_eq_true rfl) (Nat.le_of_ble_eq_true rfl) (Nat.le_of_ble_eq_true rfl) (fun G1 h_65 => ?_)
        obtain ⟨hI1, hF1⟩ := h_65
        first | refine w_iinc_2 dX1_passWeather_68 (nI_inc _) rfl ?_ | refine w_iinc_2 dX1_passWeather_68 rfl rfl ?_
        refine w_goto (tgt := 25) dX1_passWeather_71 (by decide) ?_
        first
          | exact ih (i + 1) G1 (by omega) (by omega) (hI1.congr (by rw [wetT, wetS, if_pos c_42, Nat.min_def])) (fun G2 h1 h2 => hQ G2 h1 (hF1.tr h2))
          | exact ih (i + 1) G (by omega) (by omega) (hI.congr (by rw [wetT, wetS, if_neg c_42])) hQ
theorem c_passWeather {E : EV} {a : Nat} {T : ST} {sd : Int32} {G : AH} (hI : Isl G a T sd) (hB : Bd T) : Cd E 2 kX1_passWeather [.ref a] G (fun G1 => Isl G1 a (wthT T sd) (wthS T sd) ∧ Fr G G1 a) := by
  obtain ⟨i0, i1, i2, i3, i4, i5, i6, i7, i8, i9, i10, i11, i12, i13⟩ := id hI
  obtain ⟨b0, b1, b2_, b3, b4, b5, b6, b7, b8, b9, b10, b11, b12, b13, b14, b15, b16, b17, b18, b19⟩ := id hB
  have hr1 := drN_lt (dN sd); have hr2 := drN_lt (dN (dN sd))
  refine Ct.intro rfl (by decide) [.ref a, .float 0, .float 0] (by simp [Value.category]) (Nat.le_of_ble_eq_true rfl) rfl ?_
  refine w_aload_n dX1_passWeather_0 rfl ?_
  refine wV0i dX1_passWeather_1 lk_X1_148 rfl (by first | assumption | exact gs_at | (rw [gs_ne (by omega)]; (first | assumption | exact gs_at | (rw [gs_ne (by omega)]; (first | assumption | exact gs_at | (rw [gs_ne (by omega)]; (first | assumption | exact gs_at | (rw [gs_ne (by omega)]; (first | assumption | exact gs_at))))))))) rfl rfl (c_draw hI hB) (Nat.le_of_ble_eq_true rfl) (Nat.le_of_ble_eq_true rfl) (Nat.le_of_ble_eq_true rfl) (Nat.le_of_ble_eq_true rfl) (fun r_1 G1 h_1 => ?_)
  obtain ⟨rfl, hI1, hF1⟩ := h_1
  obtain ⟨i0, i1, i2, i3, i4, i5, i6, i7, i8, i9, i10, i11, i12, i13⟩ := id hI1
  refine w_bipush (v := nI 100) dX1_passWeather_4 (by decide) ?_
  first | refine w_iremN (by omega) (by omega) (by omega) dX1_passWeather_6 ?_ | refine w_irem dX1_passWeather_6 (by decide) ?_
  refine w_aload_n dX1_passWeather_7 rfl ?_
  refine w_getf dX1_passWeather_8 fl_X1_59 (by first | assumption | exact gs_at | (rw [gs_ne (by omega)]; (first | assumption | exact gs_at | (rw [gs_ne (by omega)]; (first | assumption | exact gs_at | (rw [gs_ne (by omega)]; (first | assumption | exact gs_at | (rw [gs_ne (by omega)]; (first | assumption | exact gs_at))))))))) rfl ?_
  refine w_icmp_lt (tgt := 15) dX1_passWeather_11 (by decide) (fun c_11 => ?_) (fun c_11 => ?_)
  · try simp (disch := omega) only [nI_b2, Decidable.not_not, nI_ltI, nI_leI, nI_eq, ge_iff_le, gt_iff_lt, ne_eq, Nat.not_lt, Nat.not_le] at c_11
    refine w_aload_n dX1_passWeather_15 rfl ?_
    refine wV0i dX1_passWeather_16 lk_X1_148 rfl (by first | assumption | exact gs_at | (rw [gs_ne (by omega)]; (first | assumption | exact gs_at | (rw [gs_ne (by omega)]; (first | assumption | exact gs_at | (rw [gs_ne (by omega)]; (first | assumption | exact gs_at | (rw [gs_ne (by omega)]; (first | assumption | exact gs_at))))))))) rfl rfl (c_draw hI1 hB) (Nat.le_of_ble_eq_true rfl) (Nat.le_of_ble_eq_true rfl) (Nat.le_of_ble_eq_true rfl) (Nat.le_of_ble_eq_true rfl) (fun r_16 G2 h_16 => ?_)
    obtain ⟨rfl, hI2, hF2⟩ := h_16
    obtain ⟨i0, i1, i2, i3, i4, i5, i6, i7, i8, i9, i10, i11, i12, i13⟩ := id hI2
    refine w_bipush (v := nI 6) dX1_passWeather_19 (by decide) ?_
    first | refine w_iremN (by omega) (by omega) (by omega) dX1_passWeather_21 ?_ | refine w_irem dX1_passWeather_21 (by decide) ?_
    refine w_istore_1 dX1_passWeather_22 rfl ?_
    refine w_iconst (v := nI 0) dX1_passWeather_23 (by decide) ?_
    refine w_istore_2 dX1_passWeather_24 rfl ?_
    refine lp_weather hB (w := drN (dN (dN sd)) % 6) (Nat.mod_lt _ (by decide)) (T 12 0 + 1) 0 G2 (by omega) (by omega) hI2 (fun G3 h1 h2 => ⟨rfl, ?_, hF1.tr (hF2.tr h2)⟩)
    unfold wthT wthS
    rw [if_pos (by omega), if_pos (by omega)]
    exact h1
  · try simp (disch := omega) only [nI_b2, Decidable.not_not, nI_ltI, nI_leI, nI_eq, ge_iff_le, gt_iff_lt, ne_eq, Nat.not_lt, Nat.not_le] at c_11
    refine w_vret dX1_passWeather_14 rfl (Nat.le_of_ble_eq_true rfl) (Nat.le_of_ble_eq_true rfl) ?_
    refine ⟨rfl, ?_, hF1⟩
    unfold wthT wthS
    rw [if_neg (by omega), if_neg (by omega)]
    exact hI1
