/-! the acts -/
theorem c_carry {E : EV} {G : AH} {B tn im nw rm ru sp : Nat} {f : Nat → Nat} {wb sd si : Int32} {T Ti : ST} {D Di : LD} {P : Nat → ST × Int32} {x y : Int32} (hH : HI G B tn f wb T sd D im Ti si Di nw rm P ru sp)  : Ct E 10 2 12 kX7_carry [.ref B, .int x, .int y] G (fun o G1 => XOut ["java/lang/IndexOutOfBoundsException"] (xk1 (okI (T 12 0) x ∧ okI 6 y)) (nI (T 1 (ix x))) o ∧ ((xk1 (okI (T 12 0) x ∧ okI 6 y)) = 0 → HI G1 B tn f wb (tu T 1 (ix x) (ix y)) sd D im Ti si Di ((nw + 1) % 12) (min 12 (rm + 1)) (updP P ((nw + 1) % 12) (T, sd)) ru sp) ∧ (¬ (xk1 (okI (T 12 0) x ∧ okI 6 y)) = 0 → HI G1 B tn f wb T sd D im Ti si Di nw rm P ru sp) ∧ FH G G1 B) := by
  obtain ⟨hB, ⟨htn, him, hnw, hrm⟩, hT, hRd, ⟨hI, hBd⟩, hS, ⟨hL, hD, hSp, hrs⟩, ⟨hIi, hBi, hLi, hDi⟩, ⟨hPa, hPi⟩, ⟨⟨we, hwe⟩, hSm, hSv, ⟨od, hod⟩⟩⟩ := id hH; obtain ⟨⟨_, _, _, _, _, _, gS0⟩, _⟩ := id hS; have hI0 := hI.1; have hIi0 := hIi.1
  obtain ⟨i0, i1, i2, i3, i4, i5, i6, i7, i8, i9, i10, i11, i12, i13⟩ := id hI
  obtain ⟨b0, b1, b2_, b3, b4, b5, b6, b7, b8, b9, b10, b11, b12, b13, b14, b15, b16, b17, b18, b19⟩ := id hBd
  have hls := HI.ls hH
  have hla : ru + 6 ≤ B + 9 ∨ B + 9 + 14 ≤ ru := by omega
  have hlb : ru + 6 ≤ B + 23 ∨ B + 23 + 14 ≤ ru := by omega
  refine Ct.intro rfl (by decide) [.ref B, .int x, .int y, .float 0] (by simp [Value.category]) (Nat.le_of_ble_eq_true rfl) rfl ?_
  refine w_aload_n dX7_carry_0 rfl ?_
  refine w_iload_n dX7_carry_1 rfl ?_
  refine wV1k dX7_carry_2 lk_X7_127 rfl (by first | assumption | exact gs_at | (rw [gs_ne (by omega)]; (first | assumption | exact gs_at | (rw [gs_ne (by omega)]; (first | assumption | exact gs_at | (rw [gs_ne (by omega)]; (first | assumption | exact gs_at | (rw [gs_ne (by omega)]; (first | assumption | exact gs_at))))))))) rfl rfl rfl (c_checkItem hB hI) (Nat.le_of_ble_eq_true rfl) (Nat.le_of_ble_eq_true rfl) (Nat.le_of_ble_eq_true rfl) (Nat.le_of_ble_eq_true rfl) ((fun h9 n9 h8 => ⟨XOut.no (j := 0) (by rw [xk1, if_neg (fun h => h9 h.1)]) rfl, fun e => absurd e (by rw [xk1, if_neg (fun h => h9 h.1)]; decide), fun _ => hH.x, FH.x h8⟩)) (fun ok_2 => ?_)
  obtain ⟨i, hi9, rfl⟩ := in_N (by omega) ok_2
  refine w_iload_n dX7_carry_5 rfl ?_
  refine wS1k dX7_carry_6 lk_X7_170 rfl rfl (c_checkRoom) (Nat.le_of_ble_eq_true rfl) (Nat.le_of_ble_eq_true rfl) (Nat.le_of_ble_eq_true rfl) (Nat.le_of_ble_eq_true rfl) ((fun h9 n9 h8 => ⟨XOut.no (j := 0) (by rw [xk1, if_neg (fun h => h9 h.2)]) rfl, fun e => absurd e (by rw [xk1, if_neg (fun h => h9 h.2)]; decide), fun _ => hH.x, FH.x h8⟩)) (fun ok_6 => ?_)
  obtain ⟨j, hj9, rfl⟩ := in_N (by omega) ok_6
  refine w_aload_n dX7_carry_9 rfl ?_
  refine wV0d dX7_carry_10 lk_X7_208 rfl (by first | assumption | exact gs_at | (rw [gs_ne (by omega)]; (first | assumption | exact gs_at | (rw [gs_ne (by omega)]; (first | assumption | exact gs_at | (rw [gs_ne (by omega)]; (first | assumption | exact gs_at | (rw [gs_ne (by omega)]; (first | assumption | exact gs_at))))))))) rfl rfl (c_remember hH) (Nat.le_of_ble_eq_true rfl) (Nat.le_of_ble_eq_true rfl) (Nat.le_of_ble_eq_true rfl) (Nat.le_of_ble_eq_true rfl) (fun G h_10 => ?_)
  obtain ⟨hH, hFH⟩ := h_10
  obtain ⟨hB, ⟨htn, him, hnw, hrm⟩, hT, hRd, ⟨hI, hBd⟩, hS, ⟨hL, hD, hSp, hrs⟩, ⟨hIi, hBi, hLi, hDi⟩, ⟨hPa, hPi⟩, ⟨⟨we, hwe⟩, hSm, hSv, ⟨od, hod⟩⟩⟩ := id hH; obtain ⟨⟨_, _, _, _, _, _, gS0⟩, _⟩ := id hS; have hI0 := hI.1; have hIi0 := hIi.1
  obtain ⟨i0, i1, i2, i3, i4, i5, i6, i7, i8, i9, i10, i11, i12, i13⟩ := id hI
  refine w_aload_n dX7_carry_13 rfl ?_
  refine w_getf dX7_carry_14 fl_X7_37 (by first | assumption | exact gs_at | (rw [gs_ne (by omega)]; (first | assumption | exact gs_at | (rw [gs_ne (by omega)]; (first | assumption | exact gs_at | (rw [gs_ne (by omega)]; (first | assumption | exact gs_at | (rw [gs_ne (by omega)]; (first | assumption | exact gs_at))))))))) rfl ?_
  refine w_getf dX7_carry_17 fl_X7_134 (by first | assumption | exact gs_at | (rw [gs_ne (by omega)]; (first | assumption | exact gs_at | (rw [gs_ne (by omega)]; (first | assumption | exact gs_at | (rw [gs_ne (by omega)]; (first | assumption | exact gs_at | (rw [gs_ne (by omega)]; (first | assumption | exact gs_at))))))))) rfl ?_
  refine w_iload_n dX7_carry_20 rfl ?_
  refine wS2u dX7_carry_21 lk_X7_137 rfl (c_atN (f := fun i => nI (T 1 i)) i2 (by omega) (by decide)) (Nat.le_of_ble_eq_true rfl) (Nat.le_of_ble_eq_true rfl) (Nat.le_of_ble_eq_true rfl) (Nat.le_of_ble_eq_true rfl) ?_
  refine w_istore_3 dX7_carry_24 rfl ?_
  refine w_aload_n dX7_carry_25 rfl ?_
  refine w_getf dX7_carry_26 fl_X7_37 (by first | assumption | exact gs_at | (rw [gs_ne (by omega)]; (first | assumption | exact gs_at | (rw [gs_ne (by omega)]; (first | assumption | exact gs_at | (rw [gs_ne (by omega)]; (first | assumption | exact gs_at | (rw [gs_ne (by omega)]; (first | assumption | exact gs_at))))))))) rfl ?_
  refine w_getf dX7_carry_29 fl_X7_134 (by first | assumption | exact gs_at | (rw [gs_ne (by omega)]; (first | assumption | exact gs_at | (rw [gs_ne (by omega)]; (first | assumption | exact gs_at | (rw [gs_ne (by omega)]; (first | assumption | exact gs_at | (rw [gs_ne (by omega)]; (first | assumption | exact gs_at))))))))) rfl ?_
  refine w_iload_n dX7_carry_32 rfl ?_
  refine w_iload_n dX7_carry_33 rfl ?_
  refine wS3d dX7_carry_34 lk_X7_211 rfl (c_pu1 hI (by omega)) (Nat.le_of_ble_eq_true rfl) (Nat.le_of_ble_eq_true rfl) (Nat.le_of_ble_eq_true rfl) (Nat.le_of_ble_eq_true rfl) (fun G h_34 => ?_)
  obtain ⟨hI9, hF9⟩ := h_34
  refine w_iload_n dX7_carry_37 rfl ?_
  refine w_iret dX7_carry_38 rfl (Nat.le_of_ble_eq_true rfl) (Nat.le_of_ble_eq_true rfl) ?_
  refine ⟨XOut.ok (by rw [xk1, if_pos ⟨ok_2, ok_6⟩]) ?_, fun _ => ?_, fun e => absurd (by rw [xk1, if_pos ⟨ok_2, ok_6⟩]) e, hFH.tr (hF9.toH (by omega) (by omega))⟩
  · rw [ix_nI (by omega)]
  · rw [ix_nI (by omega), ix_nI (by omega)]
    exact hH.now hI9 (hBd.pu1 (by omega) (by omega)) hF9
theorem c_mend {E : EV} {G : AH} {B tn im nw rm ru sp : Nat} {f : Nat → Nat} {wb sd si : Int32} {T Ti : ST} {D Di : LD} {P : Nat → ST × Int32} {x : Int32} (hH : HI G B tn f wb T sd D im Ti si Di nw rm P ru sp)  : Ct E 10 1 6 kX7_mend [.ref B, .int x] G (fun o G1 => XOut ["java/lang/IndexOutOfBoundsException"] (xk1 (okI (T 12 0) x)) (nI (T 2 (ix x) - 5)) o ∧ ((xk1 (okI (T 12 0) x)) = 0 → HI G1 B tn f wb (tu T 2 (ix x) (T 2 (ix x) - 5)) sd D im Ti si Di ((nw + 1) % 12) (min 12 (rm + 1)) (updP P ((nw + 1) % 12) (T, sd)) ru sp) ∧ (¬ (xk1 (okI (T 12 0) x)) = 0 → HI G1 B tn f wb T sd D im Ti si Di nw rm P ru sp) ∧ FH G G1 B) := by
  obtain ⟨hB, ⟨htn, him, hnw, hrm⟩, hT, hRd, ⟨hI, hBd⟩, hS, ⟨hL, hD, hSp, hrs⟩, ⟨hIi, hBi, hLi, hDi⟩, ⟨hPa, hPi⟩, ⟨⟨we, hwe⟩, hSm, hSv, ⟨od, hod⟩⟩⟩ := id hH; obtain ⟨⟨_, _, _, _, _, _, gS0⟩, _⟩ := id hS; have hI0 := hI.1; have hIi0 := hIi.1
  obtain ⟨i0, i1, i2, i3, i4, i5, i6, i7, i8, i9, i10, i11, i12, i13⟩ := id hI
  obtain ⟨b0, b1, b2_, b3, b4, b5, b6, b7, b8, b9, b10, b11, b12, b13, b14, b15, b16, b17, b18, b19⟩ := id hBd
  have hls := HI.ls hH
  have hla : ru + 6 ≤ B + 9 ∨ B + 9 + 14 ≤ ru := by omega
  have hlb : ru + 6 ≤ B + 23 ∨ B + 23 + 14 ≤ ru := by omega
  refine Ct.intro rfl (by decide) [.ref B, .int x, .float 0] (by simp [Value.category]) (Nat.le_of_ble_eq_true rfl) rfl ?_
  refine w_aload_n dX7_mend_0 rfl ?_
  refine w_iload_n dX7_mend_1 rfl ?_
  refine wV1k dX7_mend_2 lk_X7_127 rfl (by first | assumption | exact gs_at | (rw [gs_ne (by omega)]; (first | assumption | exact gs_at | (rw [gs_ne (by omega)]; (first | assumption | exact gs_at | (rw [gs_ne (by omega)]; (first | assumption | exact gs_at | (rw [gs_ne (by omega)]; (first | assumption | exact gs_at))))))))) rfl rfl rfl (c_checkItem hB hI) (Nat.le_of_ble_eq_true rfl) (Nat.le_of_ble_eq_true rfl) (Nat.le_of_ble_eq_true rfl) (Nat.le_of_ble_eq_true rfl) ((fun h9 n9 h8 => ⟨XOut.no (j := 0) (by rw [xk1, if_neg h9]) rfl, fun e => absurd e (by rw [xk1, if_neg h9]; decide), fun _ => hH.x, FH.x h8⟩)) (fun ok_2 => ?_)
  obtain ⟨i, hi9, rfl⟩ := in_N (by omega) ok_2
  have hb3 := b3 i
  refine w_aload_n dX7_mend_5 rfl ?_
  refine wV0d dX7_mend_6 lk_X7_208 rfl (by first | assumption | exact gs_at | (rw [gs_ne (by omega)]; (first | assumption | exact gs_at | (rw [gs_ne (by omega)]; (first | assumption | exact gs_at | (rw [gs_ne (by omega)]; (first | assumption | exact gs_at | (rw [gs_ne (by omega)]; (first | assumption | exact gs_at))))))))) rfl rfl (c_remember hH) (Nat.le_of_ble_eq_true rfl) (Nat.le_of_ble_eq_true rfl) (Nat.le_of_ble_eq_true rfl) (Nat.le_of_ble_eq_true rfl) (fun G h_6 => ?_)
  obtain ⟨hH, hFH⟩ := h_6
  obtain ⟨hB, ⟨htn, him, hnw, hrm⟩, hT, hRd, ⟨hI, hBd⟩, hS, ⟨hL, hD, hSp, hrs⟩, ⟨hIi, hBi, hLi, hDi⟩, ⟨hPa, hPi⟩, ⟨⟨we, hwe⟩, hSm, hSv, ⟨od, hod⟩⟩⟩ := id hH; obtain ⟨⟨_, _, _, _, _, _, gS0⟩, _⟩ := id hS; have hI0 := hI.1; have hIi0 := hIi.1
  obtain ⟨i0, i1, i2, i3, i4, i5, i6, i7, i8, i9, i10, i11, i12, i13⟩ := id hI
  refine w_iconst (v := nI 0) dX7_mend_9 (by decide) ?_
  refine w_aload_n dX7_mend_10 rfl ?_
  refine w_getf dX7_mend_11 fl_X7_37 (by first | assumption | exact gs_at | (rw [gs_ne (by omega)]; (first | assumption | exact gs_at | (rw [gs_ne (by omega)]; (first | assumption | exact gs_at | (rw [gs_ne (by omega)]; (first | assumption | exact gs_at | (rw [gs_ne (by omega)]; (first | assumption | exact gs_at))))))))) rfl ?_
  refine w_getf dX7_mend_14 fl_X7_144 (by first | assumption | exact gs_at | (rw [gs_ne (by omega)]; (first | assumption | exact gs_at | (rw [gs_ne (by omega)]; (first | assumption | exact gs_at | (rw [gs_ne (by omega)]; (first | assumption | exact gs_at | (rw [gs_ne (by omega)]; (first | assumption | exact gs_at))))))))) rfl ?_
  refine w_iload_n dX7_mend_17 rfl ?_
  refine wS2u dX7_mend_18 lk_X7_137 rfl (c_atN (f := fun i => nI (T 2 i)) i3 (by omega) (by decide)) (Nat.le_of_ble_eq_true rfl) (Nat.le_of_ble_eq_true rfl) (Nat.le_of_ble_eq_true rfl) (Nat.le_of_ble_eq_true rfl) ?_
  refine w_iconst (v := nI 5) dX7_mend_21 (by decide) ?_
  refine w_isub dX7_mend_22 ?_
  refine wJ2u dX7_mend_23 lk_X7_215 rfl (c_max0) (Nat.le_of_ble_eq_true rfl) (Nat.le_of_ble_eq_true rfl) (Nat.le_of_ble_eq_true rfl) (Nat.le_of_ble_eq_true rfl) ?_
  rw [max0_sub (by omega) (by omega)]
  refine w_istore_2 dX7_mend_26 rfl ?_
  refine w_aload_n dX7_mend_27 rfl ?_
  refine w_getf dX7_mend_28 fl_X7_37 (by first | assumption | exact gs_at | (rw [gs_ne (by omega)]; (first | assumption | exact gs_at | (rw [gs_ne (by omega)]; (first | assumption | exact gs_at | (rw [gs_ne (by omega)]; (first | assumption | exact gs_at | (rw [gs_ne (by omega)]; (first | assumption | exact gs_at))))))))) rfl ?_
  refine w_getf dX7_mend_31 fl_X7_144 (by first | assumption | exact gs_at | (rw [gs_ne (by omega)]; (first | assumption | exact gs_at | (rw [gs_ne (by omega)]; (first | assumption | exact gs_at | (rw [gs_ne (by omega)]; (first | assumption | exact gs_at | (rw [gs_ne (by omega)]; (first | assumption | exact gs_at))))))))) rfl ?_
  refine w_iload_n dX7_mend_34 rfl ?_
  refine w_iload_n dX7_mend_35 rfl ?_
  refine wS3d dX7_mend_36 lk_X7_211 rfl (c_pu2 hI (by omega)) (Nat.le_of_ble_eq_true rfl) (Nat.le_of_ble_eq_true rfl) (Nat.le_of_ble_eq_true rfl) (Nat.le_of_ble_eq_true rfl) (fun G h_36 => ?_)
  obtain ⟨hI9, hF9⟩ := h_36
  refine w_iload_n dX7_mend_39 rfl ?_
  refine w_iret dX7_mend_40 rfl (Nat.le_of_ble_eq_true rfl) (Nat.le_of_ble_eq_true rfl) ?_
  refine ⟨XOut.ok (by rw [xk1, if_pos ok_2]) ?_, fun _ => ?_, fun e => absurd (by rw [xk1, if_pos ok_2]) e, hFH.tr (hF9.toH (by omega) (by omega))⟩
  · rw [ix_nI (by omega)]
  · rw [ix_nI (by omega)]
    exact hH.now hI9 (hBd.pu2 (by omega) (by omega)) hF9
theorem c_sweep {E : EV} {G : AH} {B tn im nw rm ru sp : Nat} {f : Nat → Nat} {wb sd si : Int32} {T Ti : ST} {D Di : LD} {P : Nat → ST × Int32} {x : Int32} (hH : HI G B tn f wb T sd D im Ti si Di nw rm P ru sp)  : Ct E 10 1 6 kX7_sweep [.ref B, .int x] G (fun o G1 => XOut ["java/lang/IndexOutOfBoundsException"] (xk1 (okI 6 x)) (nI (T 7 (ix x))) o ∧ ((xk1 (okI 6 x)) = 0 → HI G1 B tn f wb (tu T 7 (ix x) 0) sd D im Ti si Di ((nw + 1) % 12) (min 12 (rm + 1)) (updP P ((nw + 1) % 12) (T, sd)) ru sp) ∧ (¬ (xk1 (okI 6 x)) = 0 → HI G1 B tn f wb T sd D im Ti si Di nw rm P ru sp) ∧ FH G G1 B) := by
  obtain ⟨hB, ⟨htn, him, hnw, hrm⟩, hT, hRd, ⟨hI, hBd⟩, hS, ⟨hL, hD, hSp, hrs⟩, ⟨hIi, hBi, hLi, hDi⟩, ⟨hPa, hPi⟩, ⟨⟨we, hwe⟩, hSm, hSv, ⟨od, hod⟩⟩⟩ := id hH; obtain ⟨⟨_, _, _, _, _, _, gS0⟩, _⟩ := id hS; have hI0 := hI.1; have hIi0 := hIi.1
  obtain ⟨i0, i1, i2, i3, i4, i5, i6, i7, i8, i9, i10, i11, i12, i13⟩ := id hI
  obtain ⟨b0, b1, b2_, b3, b4, b5, b6, b7, b8, b9, b10, b11, b12, b13, b14, b15, b16, b17, b18, b19⟩ := id hBd
  have hls := HI.ls hH
  have hla : ru + 6 ≤ B + 9 ∨ B + 9 + 14 ≤ ru := by omega
  have hlb : ru + 6 ≤ B + 23 ∨ B + 23 + 14 ≤ ru := by omega
  refine Ct.intro rfl (by decide) [.ref B, .int x, .float 0] (by simp [Value.category]) (Nat.le_of_ble_eq_true rfl) rfl ?_
  refine w_iload_n dX7_sweep_0 rfl ?_
  refine wS1k dX7_sweep_1 lk_X7_170 rfl rfl (c_checkRoom) (Nat.le_of_ble_eq_true rfl) (Nat.le_of_ble_eq_true rfl) (Nat.le_of_ble_eq_true rfl) (Nat.le_of_ble_eq_true rfl) ((fun h9 n9 h8 => ⟨XOut.no (j := 0) (by rw [xk1, if_neg h9]) rfl, fun e => absurd e (by rw [xk1, if_neg h9]; decide), fun _ => hH.x, FH.x h8⟩)) (fun ok_1 => ?_)
  obtain ⟨i, hi9, rfl⟩ := in_N (by omega) ok_1
  refine w_aload_n dX7_sweep_4 rfl ?_
  refine wV0d dX7_sweep_5 lk_X7_208 rfl (by first | assumption | exact gs_at | (rw [gs_ne (by omega)]; (first | assumption | exact gs_at | (rw [gs_ne (by omega)]; (first | assumption | exact gs_at | (rw [gs_ne (by omega)]; (first | assumption | exact gs_at | (rw [gs_ne (by omega)]; (first | assumption | exact gs_at))))))))) rfl rfl (c_remember hH) (Nat.le_of_ble_eq_true rfl) (Nat.le_of_ble_eq_true rfl) (Nat.le_of_ble_eq_true rfl) (Nat.le_of_ble_eq_true rfl) (fun G h_5 => ?_)
  obtain ⟨hH, hFH⟩ := h_5
  obtain ⟨hB, ⟨htn, him, hnw, hrm⟩, hT, hRd, ⟨hI, hBd⟩, hS, ⟨hL, hD, hSp, hrs⟩, ⟨hIi, hBi, hLi, hDi⟩, ⟨hPa, hPi⟩, ⟨⟨we, hwe⟩, hSm, hSv, ⟨od, hod⟩⟩⟩ := id hH; obtain ⟨⟨_, _, _, _, _, _, gS0⟩, _⟩ := id hS; have hI0 := hI.1; have hIi0 := hIi.1
  obtain ⟨i0, i1, i2, i3, i4, i5, i6, i7, i8, i9, i10, i11, i12, i13⟩ := id hI
  refine w_aload_n dX7_sweep_8 rfl ?_
  refine w_getf dX7_sweep_9 fl_X7_37 (by first | assumption | exact gs_at | (rw [gs_ne (by omega)]; (first | assumption | exact gs_at | (rw [gs_ne (by omega)]; (first | assumption | exact gs_at | (rw [gs_ne (by omega)]; (first | assumption | exact gs_at | (rw [gs_ne (by omega)]; (first | assumption | exact gs_at))))))))) rfl ?_
  refine w_getf dX7_sweep_12 fl_X7_173 (by first | assumption | exact gs_at | (rw [gs_ne (by omega)]; (first | assumption | exact gs_at | (rw [gs_ne (by omega)]; (first | assumption | exact gs_at | (rw [gs_ne (by omega)]; (first | assumption | exact gs_at | (rw [gs_ne (by omega)]; (first | assumption | exact gs_at))))))))) rfl ?_
  refine w_iload_n dX7_sweep_15 rfl ?_
  refine wS2u dX7_sweep_16 lk_X7_137 rfl (c_atN (f := fun i => nI (T 7 i)) i8 (by omega) (by decide)) (Nat.le_of_ble_eq_true rfl) (Nat.le_of_ble_eq_true rfl) (Nat.le_of_ble_eq_true rfl) (Nat.le_of_ble_eq_true rfl) ?_
  refine w_istore_2 dX7_sweep_19 rfl ?_
  refine w_aload_n dX7_sweep_20 rfl ?_
  refine w_getf dX7_sweep_21 fl_X7_37 (by first | assumption | exact gs_at | (rw [gs_ne (by omega)]; (first | assumption | exact gs_at | (rw [gs_ne (by omega)]; (first | assumption | exact gs_at | (rw [gs_ne (by omega)]; (first | assumption | exact gs_at | (rw [gs_ne (by omega)]; (first | assumption | exact gs_at))))))))) rfl ?_
  refine w_getf dX7_sweep_24 fl_X7_173 (by first | assumption | exact gs_at | (rw [gs_ne (by omega)]; (first | assumption | exact gs_at | (rw [gs_ne (by omega)]; (first | assumption | exact gs_at | (rw [gs_ne (by omega)]; (first | assumption | exact gs_at | (rw [gs_ne (by omega)]; (first | assumption | exact gs_at))))))))) rfl ?_
  refine w_iload_n dX7_sweep_27 rfl ?_
  refine w_iconst (v := nI 0) dX7_sweep_28 (by decide) ?_
  refine wS3d dX7_sweep_29 lk_X7_211 rfl (c_pu7 hI (by omega)) (Nat.le_of_ble_eq_true rfl) (Nat.le_of_ble_eq_true rfl) (Nat.le_of_ble_eq_true rfl) (Nat.le_of_ble_eq_true rfl) (fun G h_29 => ?_)
  obtain ⟨hI9, hF9⟩ := h_29
  refine w_iload_n dX7_sweep_32 rfl ?_
  refine w_iret dX7_sweep_33 rfl (Nat.le_of_ble_eq_true rfl) (Nat.le_of_ble_eq_true rfl) ?_
  refine ⟨XOut.ok (by rw [xk1, if_pos ok_1]) ?_, fun _ => ?_, fun e => absurd (by rw [xk1, if_pos ok_1]) e, hFH.tr (hF9.toH (by omega) (by omega))⟩
  · rw [ix_nI (by omega)]
  · rw [ix_nI (by omega)]
    exact hH.now hI9 (hBd.pu7 (by omega)) hF9
theorem c_pay {E : EV} {G : AH} {B tn im nw rm ru sp : Nat} {f : Nat → Nat} {wb sd si : Int32} {T Ti : ST} {D Di : LD} {P : Nat → ST × Int32} {x y : Int32} (hH : HI G B tn f wb T sd D im Ti si Di nw rm P ru sp)  : Ct E 10 2 12 kX7_pay [.ref B, .int x, .int y] G (fun o G1 => XOut ["java/lang/IndexOutOfBoundsException", "java/lang/IllegalArgumentException"] (xk2 (okI 2 x) (okN 1 (nI (T 10 (ix x))) y)) (nI (T 10 (ix x) - ix y)) o ∧ ((xk2 (okI 2 x) (okN 1 (nI (T 10 (ix x))) y)) = 0 → HI G1 B tn f wb (tu T 10 (ix x) (T 10 (ix x) - ix y)) sd D im Ti si Di ((nw + 1) % 12) (min 12 (rm + 1)) (updP P ((nw + 1) % 12) (T, sd)) ru sp) ∧ (¬ (xk2 (okI 2 x) (okN 1 (nI (T 10 (ix x))) y)) = 0 → HI G1 B tn f wb T sd D im Ti si Di nw rm P ru sp) ∧ FH G G1 B) := by
  obtain ⟨hB, ⟨htn, him, hnw, hrm⟩, hT, hRd, ⟨hI, hBd⟩, hS, ⟨hL, hD, hSp, hrs⟩, ⟨hIi, hBi, hLi, hDi⟩, ⟨hPa, hPi⟩, ⟨⟨we, hwe⟩, hSm, hSv, ⟨od, hod⟩⟩⟩ := id hH; obtain ⟨⟨_, _, _, _, _, _, gS0⟩, _⟩ := id hS; have hI0 := hI.1; have hIi0 := hIi.1
  obtain ⟨i0, i1, i2, i3, i4, i5, i6, i7, i8, i9, i10, i11, i12, i13⟩ := id hI
  obtain ⟨b0, b1, b2_, b3, b4, b5, b6, b7, b8, b9, b10, b11, b12, b13, b14, b15, b16, b17, b18, b19⟩ := id hBd
  have hls := HI.ls hH
  have hla : ru + 6 ≤ B + 9 ∨ B + 9 + 14 ≤ ru := by omega
  have hlb : ru + 6 ≤ B + 23 ∨ B + 23 + 14 ≤ ru := by omega
  refine Ct.intro rfl (by decide) [.ref B, .int x, .int y, .float 0] (by simp [Value.category]) (Nat.le_of_ble_eq_true rfl) rfl ?_
  refine w_iload_n dX7_pay_0 rfl ?_
  refine wS1k dX7_pay_1 lk_X7_182 rfl rfl (c_checkSide) (Nat.le_of_ble_eq_true rfl) (Nat.le_of_ble_eq_true rfl) (Nat.le_of_ble_eq_true rfl) (Nat.le_of_ble_eq_true rfl) ((fun h9 n9 h8 => ⟨XOut.no (j := 0) (by rw [xk2, if_neg h9]) rfl, fun e => absurd e (by rw [xk2, if_neg h9]; decide), fun _ => hH.x, FH.x h8⟩)) (fun ok_1 => ?_)
  obtain ⟨i, hi9, rfl⟩ := in_N (by omega) ok_1
  have hb11 := b11 i
  refine w_aload_n dX7_pay_4 rfl ?_
  refine w_getf dX7_pay_5 fl_X7_37 (by first | assumption | exact gs_at | (rw [gs_ne (by omega)]; (first | assumption | exact gs_at | (rw [gs_ne (by omega)]; (first | assumption | exact gs_at | (rw [gs_ne (by omega)]; (first | assumption | exact gs_at | (rw [gs_ne (by omega)]; (first | assumption | exact gs_at))))))))) rfl ?_
  refine w_getf dX7_pay_8 fl_X7_188 (by first | assumption | exact gs_at | (rw [gs_ne (by omega)]; (first | assumption | exact gs_at | (rw [gs_ne (by omega)]; (first | assumption | exact gs_at | (rw [gs_ne (by omega)]; (first | assumption | exact gs_at | (rw [gs_ne (by omega)]; (first | assumption | exact gs_at))))))))) rfl ?_
  refine w_iload_n dX7_pay_11 rfl ?_
  refine wS2u dX7_pay_12 lk_X7_137 rfl (c_atN (f := fun i => nI (T 10 i)) i11 (by omega) (by decide)) (Nat.le_of_ble_eq_true rfl) (Nat.le_of_ble_eq_true rfl) (Nat.le_of_ble_eq_true rfl) (Nat.le_of_ble_eq_true rfl) ?_
  refine w_istore_3 dX7_pay_15 rfl ?_
  refine w_iload_n dX7_pay_16 rfl ?_
  refine w_iconst (v := nI 1) dX7_pay_17 (by decide) ?_
  refine w_iload_n dX7_pay_18 rfl ?_
  refine wS3k dX7_pay_19 lk_X7_220 rfl rfl (c_checkNumber) (Nat.le_of_ble_eq_true rfl) (Nat.le_of_ble_eq_true rfl) (Nat.le_of_ble_eq_true rfl) (Nat.le_of_ble_eq_true rfl) ((fun h9 n9 h8 => ⟨XOut.no (j := 1) (by rw [xk2, if_pos ok_1, ix_nI (by omega), if_neg h9]) rfl, fun e => absurd e (by rw [xk2, if_pos ok_1, ix_nI (by omega), if_neg h9]; decide), fun _ => hH.x, FH.x h8⟩)) (fun ok_19 => ?_)
  obtain ⟨j, hj8, hj9, rfl⟩ := in_L (by omega) (by omega) ok_19
  refine w_aload_n dX7_pay_22 rfl ?_
  refine wV0d dX7_pay_23 lk_X7_208 rfl (by first | assumption | exact gs_at | (rw [gs_ne (by omega)]; (first | assumption | exact gs_at | (rw [gs_ne (by omega)]; (first | assumption | exact gs_at | (rw [gs_ne (by omega)]; (first | assumption | exact gs_at | (rw [gs_ne (by omega)]; (first | assumption | exact gs_at))))))))) rfl rfl (c_remember hH) (Nat.le_of_ble_eq_true rfl) (Nat.le_of_ble_eq_true rfl) (Nat.le_of_ble_eq_true rfl) (Nat.le_of_ble_eq_true rfl) (fun G h_23 => ?_)
  obtain ⟨hH, hFH⟩ := h_23
  obtain ⟨hB, ⟨htn, him, hnw, hrm⟩, hT, hRd, ⟨hI, hBd⟩, hS, ⟨hL, hD, hSp, hrs⟩, ⟨hIi, hBi, hLi, hDi⟩, ⟨hPa, hPi⟩, ⟨⟨we, hwe⟩, hSm, hSv, ⟨od, hod⟩⟩⟩ := id hH; obtain ⟨⟨_, _, _, _, _, _, gS0⟩, _⟩ := id hS; have hI0 := hI.1; have hIi0 := hIi.1
  obtain ⟨i0, i1, i2, i3, i4, i5, i6, i7, i8, i9, i10, i11, i12, i13⟩ := id hI
  refine w_aload_n dX7_pay_26 rfl ?_
  refine w_getf dX7_pay_27 fl_X7_37 (by first | assumption | exact gs_at | (rw [gs_ne (by omega)]; (first | assumption | exact gs_at | (rw [gs_ne (by omega)]; (first | assumption | exact gs_at | (rw [gs_ne (by omega)]; (first | assumption | exact gs_at | (rw [gs_ne (by omega)]; (first | assumption | exact gs_at))))))))) rfl ?_
  refine w_getf dX7_pay_30 fl_X7_188 (by first | assumption | exact gs_at | (rw [gs_ne (by omega)]; (first | assumption | exact gs_at | (rw [gs_ne (by omega)]; (first | assumption | exact gs_at | (rw [gs_ne (by omega)]; (first | assumption | exact gs_at | (rw [gs_ne (by omega)]; (first | assumption | exact gs_at))))))))) rfl ?_
  refine w_iload_n dX7_pay_33 rfl ?_
  refine w_iload_n dX7_pay_34 rfl ?_
  refine w_iload_n dX7_pay_35 rfl ?_
  refine w_isubN (by omega) dX7_pay_36 ?_
  refine wS3d dX7_pay_37 lk_X7_211 rfl (c_pu10 hI (by omega)) (Nat.le_of_ble_eq_true rfl) (Nat.le_of_ble_eq_true rfl) (Nat.le_of_ble_eq_true rfl) (Nat.le_of_ble_eq_true rfl) (fun G h_37 => ?_)
  obtain ⟨hI9, hF9⟩ := h_37
  refine w_iload_n dX7_pay_40 rfl ?_
  refine w_iload_n dX7_pay_41 rfl ?_
  refine w_isubN (by omega) dX7_pay_42 ?_
  refine w_iret dX7_pay_43 rfl (Nat.le_of_ble_eq_true rfl) (Nat.le_of_ble_eq_true rfl) ?_
  refine ⟨XOut.ok (by rw [xk2, if_pos ok_1, ix_nI (by omega), if_pos ok_19]) ?_, fun _ => ?_, fun e => absurd (by rw [xk2, if_pos ok_1, ix_nI (by omega), if_pos ok_19]) e, hFH.tr (hF9.toH (by omega) (by omega))⟩
  · rw [ix_nI (by omega), ix_nI (by omega)]
  · rw [ix_nI (by omega), ix_nI (by omega)]
    exact hH.now hI9 (hBd.pu10 (by omega)) hF9
def eqN (D : LD) (st : Nat) (T : ST) (sd : Int32) : Nat → Nat | 0 => 0 | n + 1 => eqN D st T sd n + (if leftN (adv D st T sd n).1 = 1 then 1 else 0)
theorem eqN_le (D : LD) (st : Nat) (T : ST) (sd : Int32) : ∀ n, eqN D st T sd n ≤ n
  | 0 => Nat.le_refl _
  | n + 1 => by have := eqN_le D st T sd n; rw [eqN]; split <;> omega
theorem lp_days {E : EV} {Q : OC → AH → Prop} {G0 : AH} {B tn im nw rm ru sp : Nat} {f : Nat → Nat} {wb sd si : Int32} {T Ti : ST} {D Di : LD} {P : Nat → ST × Int32} {n : Nat} (hn : n ≤ 400) (hQ : ∀ G1, HI G1 B tn f wb ((adv D 1 T sd n).1) ((adv D 1 T sd n).2) D im Ti si Di nw rm P ru sp → FH G0 G1 B → Q (.inl (some (.int (nI (eqN D 1 T sd n))))) G1) : ∀ (k i : Nat) (G : AH), n - i < k → i ≤ n → HI G B tn f wb ((adv D 1 T sd i).1) ((adv D 1 T sd i).2) D im Ti si Di nw rm P ru sp → FH G0 G B → Wp E 10 1 6 kX7_days Q G (1, 6) 16 [.ref B, .int (nI n), .int (nI (eqN D 1 T sd i)), .int (nI i)] [] := by
  intro k
  induction k with
  | zero => intro i G h; exact absurd h (by omega)
  | succ k ih =>
    intro i G hk hi hH hFH
    obtain ⟨hB, ⟨htn, him, hnw, hrm⟩, hT, hRd, ⟨hI, hBd⟩, hS, ⟨hL, hD, hSp, hrs⟩, ⟨hIi, hBi, hLi, hDi⟩, ⟨hPa, hPi⟩, ⟨⟨we, hwe⟩, hSm, hSv, ⟨od, hod⟩⟩⟩ := id hH; obtain ⟨⟨_, _, _, _, _, _, gS0⟩, _⟩ := id hS; have hI0 := hI.1; have hIi0 := hIi.1
    have hls := HI.ls hH
    have hla : ru + 6 ≤ B + 9 ∨ B + 9 + 14 ≤ ru := by omega
    have hle := eqN_le D 1 T sd i
    refine w_iload_n dX7_days_16 rfl ?_
    refine w_iload_n dX7_days_17 rfl ?_
    refine w_icmp_ge (tgt := 45) dX7_days_18 (by decide) (fun c_18 => ?_) (fun c_18 => ?_)
    · try simp (disch := omega) only [nI_b2, Decidable.not_not, nI_ltI, nI_leI, nI_eq, ge_iff_le, gt_iff_lt, ne_eq, Nat.not_lt, Nat.not_le] at c_18
      refine w_iload_n dX7_days_45 rfl ?_
      refine w_iret dX7_days_46 rfl (Nat.le_of_ble_eq_true rfl) (Nat.le_of_ble_eq_true rfl) ?_
      have e : i = n := by omega
      subst e
      exact hQ G hH hFH
    · try simp (disch := omega) only [nI_b2, Decidable.not_not, nI_ltI, nI_leI, nI_eq, ge_iff_le, gt_iff_lt, ne_eq, Nat.not_lt, Nat.not_le] at c_18
      refine w_aload_n dX7_days_21 rfl ?_
      refine w_getf dX7_days_22 fl_X7_37 (by first | assumption | exact gs_at | (rw [gs_ne (by omega)]; (first | assumption | exact gs_at | (rw [gs_ne (by omega)]; (first | assumption | exact gs_at | (rw [gs_ne (by omega)]; (first | assumption | exact gs_at | (rw [gs_ne (by omega)]; (first | assumption | exact gs_at))))))))) rfl ?_
      refine w_aload_n dX7_days_25 rfl ?_
      refine w_getf dX7_days_26 fl_X7_47 (by first | assumption | exact gs_at | (rw [gs_ne (by omega)]; (first | assumption | exact gs_at | (rw [gs_ne (by omega)]; (first | assumption | exact gs_at | (rw [gs_ne (by omega)]; (first | assumption | exact gs_at | (rw [gs_ne (by omega)]; (first | assumption | exact gs_at))))))))) rfl ?_
      refine w_iconst (v := nI 1) dX7_days_29 (by decide) ?_
      refine wV2i dX7_days_30 lk_X7_235 rfl (by first | assumption | exact gs_at | (rw [gs_ne (by omega)]; (first | assumption | exact gs_at | (rw [gs_ne (by omega)]; (first | assumption | exact gs_at | (rw [gs_ne (by omega)]; (first | assumption | exact gs_at | (rw [gs_ne (by omega)]; (first | assumption | exact gs_at))))))))) rfl rfl (c_passDay hL hD hI hBd (by decide) hla) (Nat.le_of_ble_eq_true rfl) (Nat.le_of_ble_eq_true rfl) (Nat.le_of_ble_eq_true rfl) (Nat.le_of_ble_eq_true rfl) (fun r_30 G h_30 => ?_)
      obtain ⟨hr9, hJ1, hL1, hF1⟩ := h_30
      subst hr9
      have hH := hH.dayN hJ1 (hBd.day 1 _) hL1 hF1
      have hFH := hFH.tr (hF1.toH (by omega) (by omega) (by omega) (by omega))
      refine w_ifN_eq (tgt := 39) dX7_days_33 (by decide) (fun c_33 => ?_) (fun c_33 => ?_)
      · try simp (disch := omega) only [nI_b2, Decidable.not_not, nI_ltI, nI_leI, nI_eq, ge_iff_le, gt_iff_lt, ne_eq, Nat.not_lt, Nat.not_le] at c_33
        first | refine w_iinc_3 dX7_days_39 (nI_inc _) rfl ?_ | refine w_iinc_3 dX7_days_39 rfl rfl ?_
        refine w_goto (tgt := 16) dX7_days_42 (by decide) ?_
        have hN := ih (i + 1) G (by omega) (by omega) hH hFH
        rw [eqN] at hN
        first
          | (rw [if_pos c_33] at hN; exact hN)
          | (rw [if_neg c_33] at hN; exact hN)
      · try simp (disch := omega) only [nI_b2, Decidable.not_not, nI_ltI, nI_leI, nI_eq, ge_iff_le, gt_iff_lt, ne_eq, Nat.not_lt, Nat.not_le] at c_33
        first | refine w_iinc_2 dX7_days_36 (nI_inc _) rfl ?_ | refine w_iinc_2 dX7_days_36 rfl rfl ?_
        first | refine w_iinc_3 dX7_days_39 (nI_inc _) rfl ?_ | refine w_iinc_3 dX7_days_39 rfl rfl ?_
        refine w_goto (tgt := 16) dX7_days_42 (by decide) ?_
        have hN := ih (i + 1) G (by omega) (by omega) hH hFH
        rw [eqN] at hN
        first
          | (rw [if_pos c_33] at hN; exact hN)
          | (rw [if_neg c_33] at hN; exact hN)
theorem c_days {E : EV} {G : AH} {B tn im nw rm ru sp : Nat} {f : Nat → Nat} {wb sd si : Int32} {T Ti : ST} {D Di : LD} {P : Nat → ST × Int32} {x : Int32} (hH : HI G B tn f wb T sd D im Ti si Di nw rm P ru sp)  : Ct E 10 1 6 kX7_days [.ref B, .int x] G (fun o G1 => XOut ["java/lang/IllegalArgumentException"] (xk1 (okN 1 (nI 400) x)) (nI (eqN D 1 T sd (ix x))) o ∧ ((xk1 (okN 1 (nI 400) x)) = 0 → HI G1 B tn f wb ((adv D 1 T sd (ix x)).1) ((adv D 1 T sd (ix x)).2) D im Ti si Di ((nw + 1) % 12) (min 12 (rm + 1)) (updP P ((nw + 1) % 12) (T, sd)) ru sp) ∧ (¬ (xk1 (okN 1 (nI 400) x)) = 0 → HI G1 B tn f wb T sd D im Ti si Di nw rm P ru sp) ∧ FH G G1 B) := by
  obtain ⟨hB, ⟨htn, him, hnw, hrm⟩, hT, hRd, ⟨hI, hBd⟩, hS, ⟨hL, hD, hSp, hrs⟩, ⟨hIi, hBi, hLi, hDi⟩, ⟨hPa, hPi⟩, ⟨⟨we, hwe⟩, hSm, hSv, ⟨od, hod⟩⟩⟩ := id hH; obtain ⟨⟨_, _, _, _, _, _, gS0⟩, _⟩ := id hS; have hI0 := hI.1; have hIi0 := hIi.1
  obtain ⟨i0, i1, i2, i3, i4, i5, i6, i7, i8, i9, i10, i11, i12, i13⟩ := id hI
  obtain ⟨b0, b1, b2_, b3, b4, b5, b6, b7, b8, b9, b10, b11, b12, b13, b14, b15, b16, b17, b18, b19⟩ := id hBd
  have hls := HI.ls hH
  have hla : ru + 6 ≤ B + 9 ∨ B + 9 + 14 ≤ ru := by omega
  have hlb : ru + 6 ≤ B + 23 ∨ B + 23 + 14 ≤ ru := by omega
  refine Ct.intro rfl (by decide) [.ref B, .int x, .float 0, .float 0] (by simp [Value.category]) (Nat.le_of_ble_eq_true rfl) rfl ?_
  refine w_iload_n dX7_days_0 rfl ?_
  refine w_iconst (v := nI 1) dX7_days_1 (by decide) ?_
  refine w_sipush (v := nI 400) dX7_days_2 (by decide) ?_
  refine wS3k dX7_days_5 lk_X7_220 rfl rfl (c_checkNumber) (Nat.le_of_ble_eq_true rfl) (Nat.le_of_ble_eq_true rfl) (Nat.le_of_ble_eq_true rfl) (Nat.le_of_ble_eq_true rfl) ((fun h9 n9 h8 => ⟨XOut.no (j := 0) (by rw [xk1, if_neg h9]) rfl, fun e => absurd e (by rw [xk1, if_neg h9]; decide), fun _ => hH.x, FH.x h8⟩)) (fun ok_5 => ?_)
  obtain ⟨n, hj8, hj9, rfl⟩ := in_L (by omega) (by omega) ok_5
  refine w_aload_n dX7_days_8 rfl ?_
  refine wV0d dX7_days_9 lk_X7_208 rfl (by first | assumption | exact gs_at | (rw [gs_ne (by omega)]; (first | assumption | exact gs_at | (rw [gs_ne (by omega)]; (first | assumption | exact gs_at | (rw [gs_ne (by omega)]; (first | assumption | exact gs_at | (rw [gs_ne (by omega)]; (first | assumption | exact gs_at))))))))) rfl rfl (c_remember hH) (Nat.le_of_ble_eq_true rfl) (Nat.le_of_ble_eq_true rfl) (Nat.le_of_ble_eq_true rfl) (Nat.le_of_ble_eq_true rfl) (fun G h_9 => ?_)
  obtain ⟨hH, hFH⟩ := h_9
  obtain ⟨hB, ⟨htn, him, hnw, hrm⟩, hT, hRd, ⟨hI, hBd⟩, hS, ⟨hL, hD, hSp, hrs⟩, ⟨hIi, hBi, hLi, hDi⟩, ⟨hPa, hPi⟩, ⟨⟨we, hwe⟩, hSm, hSv, ⟨od, hod⟩⟩⟩ := id hH; obtain ⟨⟨_, _, _, _, _, _, gS0⟩, _⟩ := id hS; have hI0 := hI.1; have hIi0 := hIi.1
  obtain ⟨i0, i1, i2, i3, i4, i5, i6, i7, i8, i9, i10, i11, i12, i13⟩ := id hI
  refine w_iconst (v := nI 0) dX7_days_12 (by decide) ?_
  refine w_istore_2 dX7_days_13 rfl ?_
  refine w_iconst (v := nI 0) dX7_days_14 (by decide) ?_
  refine w_istore_3 dX7_days_15 rfl ?_
  exact lp_days hj9 (fun G1 h1 h2 => ⟨XOut.ok (by rw [xk1, if_pos ok_5]) (by rw [ix_nI (by omega)]), fun _ => by rw [ix_nI (by omega)]; exact h1, fun e => absurd (by rw [xk1, if_pos ok_5]) e, hFH.tr h2⟩) (n + 1) 0 G (by omega) (by omega) hH FH.rf
