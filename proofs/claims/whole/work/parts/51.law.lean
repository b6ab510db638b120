/-! the law's call -/
def lawU (f : Nat → Nat) (tn : Nat) (X : LX) (ww : Nat → Int32) (wn : Nat) (dp : Int32) : US := uEnd tn (uText f tn ((skp f tn 0, -1), clrX X, ww, wn, dp))
theorem HI.ow {G : AH} {B tn im nw rm ru sp : Nat} {f : Nat → Nat} {wb sd si : Int32} {T Ti : ST} {D Di : LD} {P : Nat → ST × Int32} {x1 x2 : HC} (h : HI (gs G B x2) B tn f wb T sd D im Ti si Di nw rm P ru sp) : HI (gs (gs G B x1) B x2) B tn f wb T sd D im Ti si Di nw rm P ru sp := h.mv (fun q a b => by
  by_cases e : q = B
  · subst e; rw [gs_at, gs_at]
  · rw [gs_ne e, gs_ne e, gs_ne e])
theorem c_law {E : EV} {G : AH} {B tn im nw rm ru sp : Nat} {f : Nat → Nat} {wb sd si : Int32} {T Ti : ST} {D Di : LD} {P : Nat → ST × Int32} (hH : HI G B tn f wb T sd D im Ti si Di nw rm P ru sp) : Ct E 14 1 6 kX7_law [.ref B] G (fun o G1 => ∃ (X9 : LX) (ww9 : Nat → Int32) (wn9 : Nat) (dp9 : Int32), XOut ["java/lang/IllegalArgumentException"] (xk1 ((lawU f tn X9 ww9 wn9 dp9).1.2 = -1)) (lawU f tn X9 ww9 wn9 dp9).2.1.1 o ∧ ((lawU f tn X9 ww9 wn9 dp9).1.2 = -1 → ∃ D2, toX D2 = (lawU f tn X9 ww9 wn9 dp9).2.1 ∧ WFD D2 ∧ HI G1 B (0) f (-1) T sd (D2) im Ti si Di nw (0) P (sp) (ru)) ∧ (¬ (lawU f tn X9 ww9 wn9 dp9).1.2 = -1 → HI G1 B (0) f ((lawU f tn X9 ww9 wn9 dp9).1.2) T sd D im Ti si Di nw rm P ru sp) ∧ FH G G1 B) := by
  refine Ct.intro rfl (by decide) [.ref B, .float 0] (by simp [Value.category]) (Nat.le_of_ble_eq_true rfl) rfl ?_
  obtain ⟨hB, ⟨htn, him, hnw, hrm⟩, hT, hRd, ⟨hI, hBd⟩, hS, ⟨hL, hD, hSp, hrs⟩, ⟨hIi, hBi, hLi, hDi⟩, ⟨hPa, hPi⟩, ⟨⟨we, hwe⟩, hSm, hSv, ⟨od, hod⟩⟩⟩ := id hH; obtain ⟨⟨_, _, _, _, _, _, gS0⟩, _⟩ := id hS; have hI0 := hI.1; have hIi0 := hIi.1; have hSm0 := hSm.1; have hSv0 := hSv.1
  obtain ⟨i0, i1, i2, i3, i4, i5, i6, i7, i8, i9, i10, i11, i12, i13⟩ := id hI
  obtain ⟨b0, b1, b2_, b3, b4, b5, b6, b7, b8, b9, b10, b11, b12, b13, b14, b15, b16, b17, b18, b19⟩ := id hBd
  have hls := HI.ls hH
  have hla : ru + 6 ≤ B + 9 ∨ B + 9 + 14 ≤ ru := by omega
  have hlb : ru + 6 ≤ B + 23 ∨ B + 23 + 14 ≤ ru := by omega
  obtain ⟨X9, hX9, hu9⟩ := id hSp
  have hHu := hH.obj (tn2 := 0) (im2 := im) (nw2 := nw) (rm2 := rm) (wb2 := wb) (by omega)
  have hFu : FH G _ B := FH.gs (b := B) (x := hO B (0) wb ru sp im nw rm) (Nat.le_refl _) (by omega)
  refine w_aload_n dX7_law_0 rfl ?_
  refine w_aload_n dX7_law_1 rfl ?_
  refine w_getf dX7_law_2 fl_X7_27 (by first | assumption | exact gs_at | (rw [gs_ne (by omega)]; (first | assumption | exact gs_at | (rw [gs_ne (by omega)]; (first | assumption | exact gs_at | (rw [gs_ne (by omega)]; (first | assumption | exact gs_at | (rw [gs_ne (by omega)]; (first | assumption | exact gs_at))))))))) rfl ?_
  refine w_aload_n dX7_law_5 rfl ?_
  refine w_getf dX7_law_6 fl_X7_9 (by first | assumption | exact gs_at | (rw [gs_ne (by omega)]; (first | assumption | exact gs_at | (rw [gs_ne (by omega)]; (first | assumption | exact gs_at | (rw [gs_ne (by omega)]; (first | assumption | exact gs_at | (rw [gs_ne (by omega)]; (first | assumption | exact gs_at))))))))) rfl ?_
  refine w_aload_n dX7_law_9 rfl ?_
  have htn9 := htn
  refine wV0u dX7_law_10 lk_X7_98 rfl (by first | assumption | exact gs_at | (rw [gs_ne (by omega)]; (first | assumption | exact gs_at | (rw [gs_ne (by omega)]; (first | assumption | exact gs_at | (rw [gs_ne (by omega)]; (first | assumption | exact gs_at | (rw [gs_ne (by omega)]; (first | assumption | exact gs_at))))))))) rfl rfl (c_usedTape hB) (Nat.le_of_ble_eq_true rfl) (Nat.le_of_ble_eq_true rfl) (Nat.le_of_ble_eq_true rfl) (Nat.le_of_ble_eq_true rfl) ?_
  have hXu : Lg (gs G B (hO B (0) wb ru sp im nw rm)) sp X9 := hX9.fr (fun q a b => gs_ne (by omega))
  obtain ⟨hB, ⟨htn, him, hnw, hrm⟩, hT, hRd, ⟨hI, hBd⟩, hS, ⟨hL, hD, hSp, hrs⟩, ⟨hIi, hBi, hLi, hDi⟩, ⟨hPa, hPi⟩, ⟨⟨we, hwe⟩, hSm, hSv, ⟨od, hod⟩⟩⟩ := id hHu; obtain ⟨⟨_, _, _, _, _, _, gS0⟩, _⟩ := id hS; have hI0 := hI.1; have hIi0 := hIi.1; have hSm0 := hSm.1; have hSv0 := hSv.1
  obtain ⟨⟨d0, ⟨x0, x1, x2, x3, d1⟩, ⟨x4, d2⟩, ⟨wn9, dp9, hwn9, d3⟩, ⟨x5, x6, x7, x8, d4⟩, ⟨x9, d5⟩, ⟨ww9, d6⟩⟩⟩ := (⟨hRd⟩ : PLift (HRd (gs G B (hO B (0) wb ru sp im nw rm)) B))
  have hXu0 := hXu.1
  refine w_aload_n dX7_law_13 rfl ?_
  refine w_getf dX7_law_14 fl_X7_51 (by first | assumption | exact gs_at | (rw [gs_ne (by omega)]; (first | assumption | exact gs_at | (rw [gs_ne (by omega)]; (first | assumption | exact gs_at | (rw [gs_ne (by omega)]; (first | assumption | exact gs_at | (rw [gs_ne (by omega)]; (first | assumption | exact gs_at))))))))) rfl ?_
  refine wV3i dX7_law_17 lk_X7_121 rfl (by first | assumption | exact gs_at | (rw [gs_ne (by omega)]; (first | assumption | exact gs_at | (rw [gs_ne (by omega)]; (first | assumption | exact gs_at | (rw [gs_ne (by omega)]; (first | assumption | exact gs_at | (rw [gs_ne (by omega)]; (first | assumption | exact gs_at))))))))) rfl rfl (c_lawText (v := B + 5) (l := sp) (by omega) d3 d6 hwn9 d4 d5 hT.1 htn9 hT.2 hXu hu9) (Nat.le_of_ble_eq_true rfl) (Nat.le_of_ble_eq_true rfl) (Nat.le_of_ble_eq_true rfl) (Nat.le_of_ble_eq_true rfl) (fun r_17 G h_17 => ?_)
  obtain ⟨hv9, hR9, hF9⟩ := h_17
  have hHr := hHu.lawR hR9 hF9
  have hFr := hFu.tr ⟨Nat.le_of_eq hF9.1.symm, fun q hq => hF9.2 q (by omega) (by omega)⟩
  obtain ⟨hB, ⟨htn, him, hnw, hrm⟩, hT, hRd, ⟨hI, hBd⟩, hS, ⟨hL, hD, hSp, hrs⟩, ⟨hIi, hBi, hLi, hDi⟩, ⟨hPa, hPi⟩, ⟨⟨we, hwe⟩, hSm, hSv, ⟨od, hod⟩⟩⟩ := id hHr; obtain ⟨⟨_, _, _, _, _, _, gS0⟩, _⟩ := id hS; have hI0 := hI.1; have hIi0 := hIi.1; have hSm0 := hSm.1; have hSv0 := hSv.1
  have hHw := hHr.obj (tn2 := 0) (im2 := im) (nw2 := nw) (rm2 := rm) (wb2 := r_17) (by omega)
  have hFw := hFr.tr (FH.gs (b := B) (x := hO B (0) (r_17) ru sp im nw rm) (Nat.le_refl _) (by omega))
  have hv10 : r_17 = (lawU f tn X9 ww9 wn9 dp9).1.2 := hv9
  obtain ⟨-, -, -, hLg9, -, -⟩ := hR9
  refine w_putf dX7_law_20 fl_X7_31 (by first | assumption | exact gs_at | (rw [gs_ne (by omega)]; (first | assumption | exact gs_at | (rw [gs_ne (by omega)]; (first | assumption | exact gs_at | (rw [gs_ne (by omega)]; (first | assumption | exact gs_at | (rw [gs_ne (by omega)]; (first | assumption | exact gs_at))))))))) (by simp) rfl rfl ?_
  refine w_aload_n dX7_law_23 rfl ?_
  refine w_getf dX7_law_24 fl_X7_31 (by first | assumption | exact gs_at | (rw [gs_ne (by omega)]; (first | assumption | exact gs_at | (rw [gs_ne (by omega)]; (first | assumption | exact gs_at | (rw [gs_ne (by omega)]; (first | assumption | exact gs_at | (rw [gs_ne (by omega)]; (first | assumption | exact gs_at))))))))) rfl ?_
  refine w_iconst (v := (-1)) dX7_law_27 (by decide) ?_
  refine w_icmp_eq (tgt := 41) dX7_law_28 (by decide) (fun c_28 => ?_) (fun c_28 => ?_)
  · skip
    have e28 : (lawU f tn X9 ww9 wn9 dp9).1.2 = -1 := hv10.symm.trans c_28
    obtain ⟨D2, hD2, hW2⟩ := uText_ok htn9 e28
    have hLw2 := Lg.w D2 hLg9 hD2.symm
    have hLw3 : Lw (gs _ B (hO B (0) (r_17) ru sp im nw rm)) sp D2 := hLw2.same (fun q a b => gs_ne (by omega))
    have hHs := hHw.swap (tn2 := 0) (im2 := im) (nw2 := nw) (rm2 := 0) (wb2 := -1) hLw3 hW2 (by omega)
    have hLs0 := hLw3.1
    have hLr0 := hHw.2.2.2.2.2.2.1.1.1
    refine w_aload_n dX7_law_41 rfl ?_
    refine w_getf dX7_law_42 fl_X7_47 (by first | assumption | exact gs_at | (rw [gs_ne (by omega)]; (first | assumption | exact gs_at | (rw [gs_ne (by omega)]; (first | assumption | exact gs_at | (rw [gs_ne (by omega)]; (first | assumption | exact gs_at | (rw [gs_ne (by omega)]; (first | assumption | exact gs_at))))))))) rfl ?_
    refine w_astore_1 dX7_law_45 rfl ?_
    refine w_aload_n dX7_law_46 rfl ?_
    refine w_aload_n dX7_law_47 rfl ?_
    refine w_getf dX7_law_48 fl_X7_51 (by first | assumption | exact gs_at | (rw [gs_ne (by omega)]; (first | assumption | exact gs_at | (rw [gs_ne (by omega)]; (first | assumption | exact gs_at | (rw [gs_ne (by omega)]; (first | assumption | exact gs_at | (rw [gs_ne (by omega)]; (first | assumption | exact gs_at))))))))) rfl ?_
    refine w_putf dX7_law_51 fl_X7_47 (by first | assumption | exact gs_at | (rw [gs_ne (by omega)]; (first | assumption | exact gs_at | (rw [gs_ne (by omega)]; (first | assumption | exact gs_at | (rw [gs_ne (by omega)]; (first | assumption | exact gs_at | (rw [gs_ne (by omega)]; (first | assumption | exact gs_at))))))))) (by simp) rfl rfl ?_
    refine w_aload_n dX7_law_54 rfl ?_
    refine w_aload_n dX7_law_55 rfl ?_
    refine w_putf dX7_law_56 fl_X7_51 (by first | assumption | exact gs_at | (rw [gs_ne (by omega)]; (first | assumption | exact gs_at | (rw [gs_ne (by omega)]; (first | assumption | exact gs_at | (rw [gs_ne (by omega)]; (first | assumption | exact gs_at | (rw [gs_ne (by omega)]; (first | assumption | exact gs_at))))))))) (by simp) rfl rfl ?_
    refine w_aload_n dX7_law_59 rfl ?_
    refine w_iconst (v := nI 0) dX7_law_60 (by decide) ?_
    refine w_putf dX7_law_61 fl_X7_71 (by first | assumption | exact gs_at | (rw [gs_ne (by omega)]; (first | assumption | exact gs_at | (rw [gs_ne (by omega)]; (first | assumption | exact gs_at | (rw [gs_ne (by omega)]; (first | assumption | exact gs_at | (rw [gs_ne (by omega)]; (first | assumption | exact gs_at))))))))) (by simp) rfl rfl ?_
    refine w_aload_n dX7_law_64 rfl ?_
    refine w_getf dX7_law_65 fl_X7_47 (by first | assumption | exact gs_at | (rw [gs_ne (by omega)]; (first | assumption | exact gs_at | (rw [gs_ne (by omega)]; (first | assumption | exact gs_at | (rw [gs_ne (by omega)]; (first | assumption | exact gs_at | (rw [gs_ne (by omega)]; (first | assumption | exact gs_at))))))))) rfl ?_
    refine w_getf dX7_law_68 fl_X7_124 (by first | assumption | exact gs_at | (rw [gs_ne (by omega)]; (first | assumption | exact gs_at | (rw [gs_ne (by omega)]; (first | assumption | exact gs_at | (rw [gs_ne (by omega)]; (first | assumption | exact gs_at | (rw [gs_ne (by omega)]; (first | assumption | exact gs_at))))))))) rfl ?_
    refine w_iret dX7_law_71 rfl (Nat.le_of_ble_eq_true rfl) (Nat.le_of_ble_eq_true rfl) ?_
    refine ⟨X9, ww9, wn9, dp9, XOut.ok (by rw [xk1, if_pos e28]) (by rw [lawU, ← hD2]; rfl), fun _ => ⟨D2, hD2, hW2, ?_⟩, fun h => absurd e28 h, hFw.tr ((FH.gs (Nat.le_refl _) (by omega)).tr ((FH.gs (Nat.le_refl _) (by omega)).tr (FH.gs (Nat.le_refl _) (by omega))))⟩
    rw [c_28] at hHw ⊢
    exact HI.ow (HI.ow (hHw.swap (tn2 := 0) (im2 := im) (nw2 := nw) (rm2 := 0) (wb2 := -1) (by rw [c_28] at hLw3; exact hLw3) hW2 (by omega)))
  · skip
    exact w_throw (i := 11) (names := ["java/lang/RuntimeException", "java/lang/Exception"]) rfl rfl (by decide +kernel) (by decide +kernel) u_745 u_19 at_iae rfl dX7_law_31 dX7_law_34 dX7_law_35 dX7_law_37 dX7_law_40 rfl (by decide) (by decide) (Nat.le_of_ble_eq_true rfl) (Nat.le_of_ble_eq_true rfl) (fun n9 h9 => ⟨X9, ww9, wn9, dp9, XOut.no (j := 0) (by rw [xk1, if_neg (fun h => c_28 (hv10.trans h))]) rfl, fun e => absurd (hv10.trans e) c_28, fun _ => by rw [← hv10]; exact hHw.x, hFw.tr (FH.x h9)⟩)
