/-! the object: what is now, what is told of it -/
theorem c_missing {E : EV} {G : AH} {B tn im nw rm ru sp : Nat} {f : Nat → Nat} {wb sd si : Int32} {T Ti : ST} {D Di : LD} {P : Nat → ST × Int32}  (hH : HI G B tn f wb T sd D im Ti si Di nw rm P ru sp)  : Cu E 4 kX7_missing [.ref B] G (.int (nI (bitN (mis T) (T 12 0)))) G := by
  obtain ⟨hB, ⟨htn, him, hnw, hrm⟩, hT, hRd, ⟨hI, hBd⟩, hS, ⟨hL, hD, hSp, hrs⟩, ⟨hIi, hBi, hLi, hDi⟩, ⟨hPa, hPi⟩, ⟨⟨we, hwe⟩, hSm, hSv, ⟨od, hod⟩⟩⟩ := id hH; obtain ⟨⟨_, _, _, _, _, _, gS0⟩, _⟩ := id hS; have hI0 := hI.1; have hIi0 := hIi.1
  obtain ⟨i0, i1, i2, i3, i4, i5, i6, i7, i8, i9, i10, i11, i12, i13⟩ := id hI
  obtain ⟨b0, b1, b2_, b3, b4, b5, b6, b7, b8, b9, b10, b11, b12, b13, b14, b15, b16, b17, b18, b19⟩ := id hBd
  have hls := HI.ls hH
  have hla : ru + 6 ≤ B + 9 ∨ B + 9 + 14 ≤ ru := by omega
  have hlb : ru + 6 ≤ B + 23 ∨ B + 23 + 14 ≤ ru := by omega
  refine Ct.intro rfl (by decide) [.ref B] (by simp [Value.category]) (Nat.le_of_ble_eq_true rfl) rfl ?_
  refine w_aload_n dX7_missing_0 rfl ?_
  refine w_getf dX7_missing_1 fl_X7_37 (by first | assumption | exact gs_at | (rw [gs_ne (by omega)]; (first | assumption | exact gs_at | (rw [gs_ne (by omega)]; (first | assumption | exact gs_at | (rw [gs_ne (by omega)]; (first | assumption | exact gs_at | (rw [gs_ne (by omega)]; (first | assumption | exact gs_at))))))))) rfl ?_
  refine wV0u dX7_missing_4 lk_X7_224 rfl (by first | assumption | exact gs_at | (rw [gs_ne (by omega)]; (first | assumption | exact gs_at | (rw [gs_ne (by omega)]; (first | assumption | exact gs_at | (rw [gs_ne (by omega)]; (first | assumption | exact gs_at | (rw [gs_ne (by omega)]; (first | assumption | exact gs_at))))))))) rfl rfl (c_missingOnes hI hBd) (Nat.le_of_ble_eq_true rfl) (Nat.le_of_ble_eq_true rfl) (Nat.le_of_ble_eq_true rfl) (Nat.le_of_ble_eq_true rfl) ?_
  refine w_iret dX7_missing_7 rfl (Nat.le_of_ble_eq_true rfl) (Nat.le_of_ble_eq_true rfl) ?_
  exact ⟨rfl, rfl⟩
theorem c_work {E : EV} {G : AH} {B tn im nw rm ru sp : Nat} {f : Nat → Nat} {wb sd si : Int32} {T Ti : ST} {D Di : LD} {P : Nat → ST × Int32}  (hH : HI G B tn f wb T sd D im Ti si Di nw rm P ru sp)  : Cu E 5 kX7_work [.ref B] G (.int (nI (wkAll T))) G := by
  obtain ⟨hB, ⟨htn, him, hnw, hrm⟩, hT, hRd, ⟨hI, hBd⟩, hS, ⟨hL, hD, hSp, hrs⟩, ⟨hIi, hBi, hLi, hDi⟩, ⟨hPa, hPi⟩, ⟨⟨we, hwe⟩, hSm, hSv, ⟨od, hod⟩⟩⟩ := id hH; obtain ⟨⟨_, _, _, _, _, _, gS0⟩, _⟩ := id hS; have hI0 := hI.1; have hIi0 := hIi.1
  obtain ⟨i0, i1, i2, i3, i4, i5, i6, i7, i8, i9, i10, i11, i12, i13⟩ := id hI
  obtain ⟨b0, b1, b2_, b3, b4, b5, b6, b7, b8, b9, b10, b11, b12, b13, b14, b15, b16, b17, b18, b19⟩ := id hBd
  have hls := HI.ls hH
  have hla : ru + 6 ≤ B + 9 ∨ B + 9 + 14 ≤ ru := by omega
  have hlb : ru + 6 ≤ B + 23 ∨ B + 23 + 14 ≤ ru := by omega
  refine Ct.intro rfl (by decide) [.ref B] (by simp [Value.category]) (Nat.le_of_ble_eq_true rfl) rfl ?_
  refine w_aload_n dX7_work_0 rfl ?_
  refine w_getf dX7_work_1 fl_X7_37 (by first | assumption | exact gs_at | (rw [gs_ne (by omega)]; (first | assumption | exact gs_at | (rw [gs_ne (by omega)]; (first | assumption | exact gs_at | (rw [gs_ne (by omega)]; (first | assumption | exact gs_at | (rw [gs_ne (by omega)]; (first | assumption | exact gs_at))))))))) rfl ?_
  refine wV0u dX7_work_4 lk_X7_245 rfl (by first | assumption | exact gs_at | (rw [gs_ne (by omega)]; (first | assumption | exact gs_at | (rw [gs_ne (by omega)]; (first | assumption | exact gs_at | (rw [gs_ne (by omega)]; (first | assumption | exact gs_at | (rw [gs_ne (by omega)]; (first | assumption | exact gs_at))))))))) rfl rfl (c_workOfAll hI hBd) (Nat.le_of_ble_eq_true rfl) (Nat.le_of_ble_eq_true rfl) (Nat.le_of_ble_eq_true rfl) (Nat.le_of_ble_eq_true rfl) ?_
  refine w_iret dX7_work_7 rfl (Nat.le_of_ble_eq_true rfl) (Nat.le_of_ble_eq_true rfl) ?_
  exact ⟨rfl, rfl⟩
theorem c_due {E : EV} {G : AH} {B tn im nw rm ru sp : Nat} {f : Nat → Nat} {wb sd si : Int32} {T Ti : ST} {D Di : LD} {P : Nat → ST × Int32}  (hH : HI G B tn f wb T sd D im Ti si Di nw rm P ru sp)  : Cu E 5 kX7_due [.ref B] G (.int (nI (dueN T))) G := by
  obtain ⟨hB, ⟨htn, him, hnw, hrm⟩, hT, hRd, ⟨hI, hBd⟩, hS, ⟨hL, hD, hSp, hrs⟩, ⟨hIi, hBi, hLi, hDi⟩, ⟨hPa, hPi⟩, ⟨⟨we, hwe⟩, hSm, hSv, ⟨od, hod⟩⟩⟩ := id hH; obtain ⟨⟨_, _, _, _, _, _, gS0⟩, _⟩ := id hS; have hI0 := hI.1; have hIi0 := hIi.1
  obtain ⟨i0, i1, i2, i3, i4, i5, i6, i7, i8, i9, i10, i11, i12, i13⟩ := id hI
  obtain ⟨b0, b1, b2_, b3, b4, b5, b6, b7, b8, b9, b10, b11, b12, b13, b14, b15, b16, b17, b18, b19⟩ := id hBd
  have hls := HI.ls hH
  have hla : ru + 6 ≤ B + 9 ∨ B + 9 + 14 ≤ ru := by omega
  have hlb : ru + 6 ≤ B + 23 ∨ B + 23 + 14 ≤ ru := by omega
  refine Ct.intro rfl (by decide) [.ref B] (by simp [Value.category]) (Nat.le_of_ble_eq_true rfl) rfl ?_
  refine w_aload_n dX7_due_0 rfl ?_
  refine w_getf dX7_due_1 fl_X7_37 (by first | assumption | exact gs_at | (rw [gs_ne (by omega)]; (first | assumption | exact gs_at | (rw [gs_ne (by omega)]; (first | assumption | exact gs_at | (rw [gs_ne (by omega)]; (first | assumption | exact gs_at | (rw [gs_ne (by omega)]; (first | assumption | exact gs_at))))))))) rfl ?_
  refine wV0u dX7_due_4 lk_X7_290 rfl (by first | assumption | exact gs_at | (rw [gs_ne (by omega)]; (first | assumption | exact gs_at | (rw [gs_ne (by omega)]; (first | assumption | exact gs_at | (rw [gs_ne (by omega)]; (first | assumption | exact gs_at | (rw [gs_ne (by omega)]; (first | assumption | exact gs_at))))))))) rfl rfl (c_owedMore hI hBd) (Nat.le_of_ble_eq_true rfl) (Nat.le_of_ble_eq_true rfl) (Nat.le_of_ble_eq_true rfl) (Nat.le_of_ble_eq_true rfl) ?_
  refine w_iret dX7_due_7 rfl (Nat.le_of_ble_eq_true rfl) (Nat.le_of_ble_eq_true rfl) ?_
  exact ⟨rfl, rfl⟩
theorem c_settles {E : EV} {G : AH} {B tn im nw rm ru sp : Nat} {f : Nat → Nat} {wb sd si : Int32} {T Ti : ST} {D Di : LD} {P : Nat → ST × Int32}  (hH : HI G B tn f wb T sd D im Ti si Di nw rm P ru sp)  : Cu E 2 kX7_settles [.ref B] G (.int (nI (T 10 0) - nI (T 10 1))) G := by
  obtain ⟨hB, ⟨htn, him, hnw, hrm⟩, hT, hRd, ⟨hI, hBd⟩, hS, ⟨hL, hD, hSp, hrs⟩, ⟨hIi, hBi, hLi, hDi⟩, ⟨hPa, hPi⟩, ⟨⟨we, hwe⟩, hSm, hSv, ⟨od, hod⟩⟩⟩ := id hH; obtain ⟨⟨_, _, _, _, _, _, gS0⟩, _⟩ := id hS; have hI0 := hI.1; have hIi0 := hIi.1
  obtain ⟨i0, i1, i2, i3, i4, i5, i6, i7, i8, i9, i10, i11, i12, i13⟩ := id hI
  obtain ⟨b0, b1, b2_, b3, b4, b5, b6, b7, b8, b9, b10, b11, b12, b13, b14, b15, b16, b17, b18, b19⟩ := id hBd
  have hls := HI.ls hH
  have hla : ru + 6 ≤ B + 9 ∨ B + 9 + 14 ≤ ru := by omega
  have hlb : ru + 6 ≤ B + 23 ∨ B + 23 + 14 ≤ ru := by omega
  refine Ct.intro rfl (by decide) [.ref B] (by simp [Value.category]) (Nat.le_of_ble_eq_true rfl) rfl ?_
  refine w_aload_n dX7_settles_0 rfl ?_
  refine w_getf dX7_settles_1 fl_X7_37 (by first | assumption | exact gs_at | (rw [gs_ne (by omega)]; (first | assumption | exact gs_at | (rw [gs_ne (by omega)]; (first | assumption | exact gs_at | (rw [gs_ne (by omega)]; (first | assumption | exact gs_at | (rw [gs_ne (by omega)]; (first | assumption | exact gs_at))))))))) rfl ?_
  refine w_getf dX7_settles_4 fl_X7_188 (by first | assumption | exact gs_at | (rw [gs_ne (by omega)]; (first | assumption | exact gs_at | (rw [gs_ne (by omega)]; (first | assumption | exact gs_at | (rw [gs_ne (by omega)]; (first | assumption | exact gs_at | (rw [gs_ne (by omega)]; (first | assumption | exact gs_at))))))))) rfl ?_
  refine w_iconst (v := nI 0) dX7_settles_7 (by decide) ?_
  refine wS2u dX7_settles_8 lk_X7_137 rfl (c_atN (f := fun i => nI (T 10 i)) (k := 0) i11 (by decide) (by decide)) (Nat.le_of_ble_eq_true rfl) (Nat.le_of_ble_eq_true rfl) (Nat.le_of_ble_eq_true rfl) (Nat.le_of_ble_eq_true rfl) ?_
  refine w_aload_n dX7_settles_11 rfl ?_
  refine w_getf dX7_settles_12 fl_X7_37 (by first | assumption | exact gs_at | (rw [gs_ne (by omega)]; (first | assumption | exact gs_at | (rw [gs_ne (by omega)]; (first | assumption | exact gs_at | (rw [gs_ne (by omega)]; (first | assumption | exact gs_at | (rw [gs_ne (by omega)]; (first | assumption | exact gs_at))))))))) rfl ?_
  refine w_getf dX7_settles_15 fl_X7_188 (by first | assumption | exact gs_at | (rw [gs_ne (by omega)]; (first | assumption | exact gs_at | (rw [gs_ne (by omega)]; (first | assumption | exact gs_at | (rw [gs_ne (by omega)]; (first | assumption | exact gs_at | (rw [gs_ne (by omega)]; (first | assumption | exact gs_at))))))))) rfl ?_
  refine w_iconst (v := nI 1) dX7_settles_18 (by decide) ?_
  refine wS2u dX7_settles_19 lk_X7_137 rfl (c_atN (f := fun i => nI (T 10 i)) (k := 1) i11 (by decide) (by decide)) (Nat.le_of_ble_eq_true rfl) (Nat.le_of_ble_eq_true rfl) (Nat.le_of_ble_eq_true rfl) (Nat.le_of_ble_eq_true rfl) ?_
  refine w_isub dX7_settles_22 ?_
  refine w_iret dX7_settles_23 rfl (Nat.le_of_ble_eq_true rfl) (Nat.le_of_ble_eq_true rfl) ?_
  exact ⟨rfl, rfl⟩
theorem lp_worse {E : EV} {Q : OC → AH → Prop} {G : AH} {B tn im nw rm ru sp : Nat} {f : Nat → Nat} {wb sd si : Int32} {T Ti : ST} {D Di : LD} {P : Nat → ST × Int32} (hH : HI G B tn f wb T sd D im Ti si Di nw rm P ru sp) (hQ : Q (.inl (some (.int (nI (bitN (fun i => 0 < worN T i) (T 12 0)))))) G) : ∀ (k i : Nat), T 12 0 - i < k → i ≤ T 12 0 → Wp E 3 0 0 kX7_worse Q G (0, 0) 4 [.ref B, .int (nI (bitN (fun i => 0 < worN T i) i)), .int (nI i)] [] := by
  obtain ⟨hB, ⟨htn, him, hnw, hrm⟩, hT, hRd, ⟨hI, hBd⟩, hS, ⟨hL, hD, hSp, hrs⟩, ⟨hIi, hBi, hLi, hDi⟩, ⟨hPa, hPi⟩, ⟨⟨we, hwe⟩, hSm, hSv, ⟨od, hod⟩⟩⟩ := id hH; obtain ⟨⟨_, _, _, _, _, _, gS0⟩, _⟩ := id hS; have hI0 := hI.1; have hIi0 := hIi.1
  obtain ⟨i0, i1, i2, i3, i4, i5, i6, i7, i8, i9, i10, i11, i12, i13⟩ := id hI
  obtain ⟨b0, b1, b2_, b3, b4, b5, b6, b7, b8, b9, b10, b11, b12, b13, b14, b15, b16, b17, b18, b19⟩ := id hBd
  have hls := HI.ls hH
  have hla : ru + 6 ≤ B + 9 ∨ B + 9 + 14 ≤ ru := by omega
  have hlb : ru + 6 ≤ B + 23 ∨ B + 23 + 14 ≤ ru := by omega
  intro k
  induction k with
  | zero => intro i h; exact absurd h (by omega)
  | succ k ih =>
    intro i hk hi
    refine w_iload_n dX7_worse_4 rfl ?_
    refine w_aload_n dX7_worse_5 rfl ?_
    refine w_getf dX7_worse_6 fl_X7_37 (by first | assumption | exact gs_at | (rw [gs_ne (by omega)]; (first | assumption | exact gs_at | (rw [gs_ne (by omega)]; (first | assumption | exact gs_at | (rw [gs_ne (by omega)]; (first | assumption | exact gs_at | (rw [gs_ne (by omega)]; (first | assumption | exact gs_at))))))))) rfl ?_
    refine w_getf dX7_worse_9 fl_X7_242 (by first | assumption | exact gs_at | (rw [gs_ne (by omega)]; (first | assumption | exact gs_at | (rw [gs_ne (by omega)]; (first | assumption | exact gs_at | (rw [gs_ne (by omega)]; (first | assumption | exact gs_at | (rw [gs_ne (by omega)]; (first | assumption | exact gs_at))))))))) rfl ?_
    refine w_icmp_ge (tgt := 38) dX7_worse_12 (by decide) (fun c_12 => ?_) (fun c_12 => ?_)
    · try simp (disch := omega) only [nI_b2, Decidable.not_not, nI_ltI, nI_leI, nI_eq, ge_iff_le, gt_iff_lt, ne_eq, Nat.not_lt, Nat.not_le] at c_12
      refine w_iload_n dX7_worse_38 rfl ?_
      refine w_iret dX7_worse_39 rfl (Nat.le_of_ble_eq_true rfl) (Nat.le_of_ble_eq_true rfl) ?_
      rw [show i = T 12 0 by omega]
      exact hQ
    · try simp (disch := omega) only [nI_b2, Decidable.not_not, nI_ltI, nI_leI, nI_eq, ge_iff_le, gt_iff_lt, ne_eq, Nat.not_lt, Nat.not_le] at c_12
      have hb3 := b3 i; have hb2 := b2_ i; have hb1 := b1 i; have hb7 := b7 i; have hb8 := b8 i; have hb9 := b9 i
      have hw : worN T i = T 2 i - T 6 i := rfl
      refine w_aload_n dX7_worse_15 rfl ?_
      refine w_getf dX7_worse_16 fl_X7_37 (by first | assumption | exact gs_at | (rw [gs_ne (by omega)]; (first | assumption | exact gs_at | (rw [gs_ne (by omega)]; (first | assumption | exact gs_at | (rw [gs_ne (by omega)]; (first | assumption | exact gs_at | (rw [gs_ne (by omega)]; (first | assumption | exact gs_at))))))))) rfl ?_
      refine w_iload_n dX7_worse_19 rfl ?_
      refine wV1u dX7_worse_20 lk_X7_163 rfl (by first | assumption | exact gs_at | (rw [gs_ne (by omega)]; (first | assumption | exact gs_at | (rw [gs_ne (by omega)]; (first | assumption | exact gs_at | (rw [gs_ne (by omega)]; (first | assumption | exact gs_at | (rw [gs_ne (by omega)]; (first | assumption | exact gs_at))))))))) rfl rfl (c_worseBy hI hBd (by omega)) (Nat.le_of_ble_eq_true rfl) (Nat.le_of_ble_eq_true rfl) (Nat.le_of_ble_eq_true rfl) (Nat.le_of_ble_eq_true rfl) ?_
      refine w_ifN_le (tgt := 32) dX7_worse_23 (by decide) (fun c_23 => ?_) (fun c_23 => ?_)
      · try simp (disch := omega) only [nI_b2, Decidable.not_not, nI_ltI, nI_leI, nI_eq, ge_iff_le, gt_iff_lt, ne_eq, Nat.not_lt, Nat.not_le] at c_23
        first | refine w_iinc_2 dX7_worse_32 (nI_inc _) rfl ?_ | refine w_iinc_2 dX7_worse_32 rfl rfl ?_
        refine w_goto (tgt := 4) dX7_worse_35 (by decide) ?_
        have hN := ih (i + 1) (by omega) (by omega)
        first
          | (rw [bitN_t (by omega)] at hN; exact hN)
          | (rw [bitN_f (by omega)] at hN; exact hN)
      · try simp (disch := omega) only [nI_b2, Decidable.not_not, nI_ltI, nI_leI, nI_eq, ge_iff_le, gt_iff_lt, ne_eq, Nat.not_lt, Nat.not_le] at c_23
        refine w_iload_n dX7_worse_26 rfl ?_
        refine w_iconst (v := nI 1) dX7_worse_27 (by decide) ?_
        refine w_iload_n dX7_worse_28 rfl ?_
        refine w_ishlN (by omega) (p2_lt (by omega)) dX7_worse_29 ?_
        first | refine w_iorN dX7_worse_30 ?_ | refine w_ior dX7_worse_30 ?_
        refine w_istore_1 dX7_worse_31 rfl ?_
        first | refine w_iinc_2 dX7_worse_32 (nI_inc _) rfl ?_ | refine w_iinc_2 dX7_worse_32 rfl rfl ?_
        refine w_goto (tgt := 4) dX7_worse_35 (by decide) ?_
        have hN := ih (i + 1) (by omega) (by omega)
        first
          | (rw [bitN_t (by omega)] at hN; exact hN)
          | (rw [bitN_f (by omega)] at hN; exact hN)
theorem c_worse {E : EV} {G : AH} {B tn im nw rm ru sp : Nat} {f : Nat → Nat} {wb sd si : Int32} {T Ti : ST} {D Di : LD} {P : Nat → ST × Int32} (hH : HI G B tn f wb T sd D im Ti si Di nw rm P ru sp) : Cu E 3 kX7_worse [.ref B] G (.int (nI (bitN (fun i => 0 < worN T i) (T 12 0)))) G := by
  refine Ct.intro rfl (by decide) [.ref B, .float 0, .float 0] (by simp [Value.category]) (Nat.le_of_ble_eq_true rfl) rfl ?_
  refine w_iconst (v := nI 0) dX7_worse_0 (by decide) ?_
  refine w_istore_1 dX7_worse_1 rfl ?_
  refine w_iconst (v := nI 0) dX7_worse_2 (by decide) ?_
  refine w_istore_2 dX7_worse_3 rfl ?_
  exact lp_worse hH ⟨rfl, rfl⟩ (T 12 0 + 1) 0 (by omega) (by omega)
theorem lp_mislaid {E : EV} {Q : OC → AH → Prop} {G : AH} {B tn im nw rm ru sp : Nat} {f : Nat → Nat} {wb sd si : Int32} {T Ti : ST} {D Di : LD} {P : Nat → ST × Int32} (hH : HI G B tn f wb T sd D im Ti si Di nw rm P ru sp) (hQ : Q (.inl (some (.int (nI (bitN (fun i => T 1 i ≠ T 0 i) (T 12 0)))))) G) : ∀ (k i : Nat), T 12 0 - i < k → i ≤ T 12 0 → Wp E 2 0 0 kX7_mislaid Q G (0, 0) 4 [.ref B, .int (nI (bitN (fun i => T 1 i ≠ T 0 i) i)), .int (nI i)] [] := by
  obtain ⟨hB, ⟨htn, him, hnw, hrm⟩, hT, hRd, ⟨hI, hBd⟩, hS, ⟨hL, hD, hSp, hrs⟩, ⟨hIi, hBi, hLi, hDi⟩, ⟨hPa, hPi⟩, ⟨⟨we, hwe⟩, hSm, hSv, ⟨od, hod⟩⟩⟩ := id hH; obtain ⟨⟨_, _, _, _, _, _, gS0⟩, _⟩ := id hS; have hI0 := hI.1; have hIi0 := hIi.1
  obtain ⟨i0, i1, i2, i3, i4, i5, i6, i7, i8, i9, i10, i11, i12, i13⟩ := id hI
  obtain ⟨b0, b1, b2_, b3, b4, b5, b6, b7, b8, b9, b10, b11, b12, b13, b14, b15, b16, b17, b18, b19⟩ := id hBd
  have hls := HI.ls hH
  have hla : ru + 6 ≤ B + 9 ∨ B + 9 + 14 ≤ ru := by omega
  have hlb : ru + 6 ≤ B + 23 ∨ B + 23 + 14 ≤ ru := by omega
  intro k
  induction k with
  | zero => intro i h; exact absurd h (by omega)
  | succ k ih =>
    intro i hk hi
    refine w_iload_n dX7_mislaid_4 rfl ?_
    refine w_aload_n dX7_mislaid_5 rfl ?_
    refine w_getf dX7_mislaid_6 fl_X7_37 (by first | assumption | exact gs_at | (rw [gs_ne (by omega)]; (first | assumption | exact gs_at | (rw [gs_ne (by omega)]; (first | assumption | exact gs_at | (rw [gs_ne (by omega)]; (first | assumption | exact gs_at | (rw [gs_ne (by omega)]; (first | assumption | exact gs_at))))))))) rfl ?_
    refine w_getf dX7_mislaid_9 fl_X7_242 (by first | assumption | exact gs_at | (rw [gs_ne (by omega)]; (first | assumption | exact gs_at | (rw [gs_ne (by omega)]; (first | assumption | exact gs_at | (rw [gs_ne (by omega)]; (first | assumption | exact gs_at | (rw [gs_ne (by omega)]; (first | assumption | exact gs_at))))))))) rfl ?_
    refine w_icmp_ge (tgt := 52) dX7_mislaid_12 (by decide) (fun c_12 => ?_) (fun c_12 => ?_)
    · try simp (disch := omega) only [nI_b2, Decidable.not_not, nI_ltI, nI_leI, nI_eq, ge_iff_le, gt_iff_lt, ne_eq, Nat.not_lt, Nat.not_le] at c_12
      refine w_iload_n dX7_mislaid_52 rfl ?_
      refine w_iret dX7_mislaid_53 rfl (Nat.le_of_ble_eq_true rfl) (Nat.le_of_ble_eq_true rfl) ?_
      rw [show i = T 12 0 by omega]
      exact hQ
    · try simp (disch := omega) only [nI_b2, Decidable.not_not, nI_ltI, nI_leI, nI_eq, ge_iff_le, gt_iff_lt, ne_eq, Nat.not_lt, Nat.not_le] at c_12
      have hb3 := b3 i; have hb2 := b2_ i; have hb1 := b1 i; have hb7 := b7 i; have hb8 := b8 i; have hb9 := b9 i
      refine w_aload_n dX7_mislaid_15 rfl ?_
      refine w_getf dX7_mislaid_16 fl_X7_37 (by first | assumption | exact gs_at | (rw [gs_ne (by omega)]; (first | assumption | exact gs_at | (rw [gs_ne (by omega)]; (first | assumption | exact gs_at | (rw [gs_ne (by omega)]; (first | assumption | exact gs_at | (rw [gs_ne (by omega)]; (first | assumption | exact gs_at))))))))) rfl ?_
      refine w_getf dX7_mislaid_19 fl_X7_134 (by first | assumption | exact gs_at | (rw [gs_ne (by omega)]; (first | assumption | exact gs_at | (rw [gs_ne (by omega)]; (first | assumption | exact gs_at | (rw [gs_ne (by omega)]; (first | assumption | exact gs_at | (rw [gs_ne (by omega)]; (first | assumption | exact gs_at))))))))) rfl ?_
      refine w_iload_n dX7_mislaid_22 rfl ?_
      refine wS2u dX7_mislaid_23 lk_X7_137 rfl (c_atN (f := fun i => nI (T 1 i)) i2 (by omega) (by decide)) (Nat.le_of_ble_eq_true rfl) (Nat.le_of_ble_eq_true rfl) (Nat.le_of_ble_eq_true rfl) (Nat.le_of_ble_eq_true rfl) ?_
      refine w_aload_n dX7_mislaid_26 rfl ?_
      refine w_getf dX7_mislaid_27 fl_X7_37 (by first | assumption | exact gs_at | (rw [gs_ne (by omega)]; (first | assumption | exact gs_at | (rw [gs_ne (by omega)]; (first | assumption | exact gs_at | (rw [gs_ne (by omega)]; (first | assumption | exact gs_at | (rw [gs_ne (by omega)]; (first | assumption | exact gs_at))))))))) rfl ?_
      refine w_getf dX7_mislaid_30 fl_X7_141 (by first | assumption | exact gs_at | (rw [gs_ne (by omega)]; (first | assumption | exact gs_at | (rw [gs_ne (by omega)]; (first | assumption | exact gs_at | (rw [gs_ne (by omega)]; (first | assumption | exact gs_at | (rw [gs_ne (by omega)]; (first | assumption | exact gs_at))))))))) rfl ?_
      refine w_iload_n dX7_mislaid_33 rfl ?_
      refine wS2u dX7_mislaid_34 lk_X7_137 rfl (c_atN (f := fun i => nI (T 0 i)) i1 (by omega) (by decide)) (Nat.le_of_ble_eq_true rfl) (Nat.le_of_ble_eq_true rfl) (Nat.le_of_ble_eq_true rfl) (Nat.le_of_ble_eq_true rfl) ?_
      refine w_icmp_eq (tgt := 46) dX7_mislaid_37 (by decide) (fun c_37 => ?_) (fun c_37 => ?_)
      · try simp (disch := omega) only [nI_b2, Decidable.not_not, nI_ltI, nI_leI, nI_eq, ge_iff_le, gt_iff_lt, ne_eq, Nat.not_lt, Nat.not_le] at c_37
        first | refine w_iinc_2 dX7_mislaid_46 (nI_inc _) rfl ?_ | refine w_iinc_2 dX7_mislaid_46 rfl rfl ?_
        refine w_goto (tgt := 4) dX7_mislaid_49 (by decide) ?_
        have hN := ih (i + 1) (by omega) (by omega)
        first
          | (rw [bitN_t (by omega)] at hN; exact hN)
          | (rw [bitN_f (by omega)] at hN; exact hN)
      · try simp (disch := omega) only [nI_b2, Decidable.not_not, nI_ltI, nI_leI, nI_eq, ge_iff_le, gt_iff_lt, ne_eq, Nat.not_lt, Nat.not_le] at c_37
        refine w_iload_n dX7_mislaid_40 rfl ?_
        refine w_iconst (v := nI 1) dX7_mislaid_41 (by decide) ?_
        refine w_iload_n dX7_mislaid_42 rfl ?_
        refine w_ishlN (by omega) (p2_lt (by omega)) dX7_mislaid_43 ?_
        first | refine w_iorN dX7_mislaid_44 ?_ | refine w_ior dX7_mislaid_44 ?_
        refine w_istore_1 dX7_mislaid_45 rfl ?_
        first | refine w_iinc_2 dX7_mislaid_46 (nI_inc _) rfl ?_ | refine w_iinc_2 dX7_mislaid_46 rfl rfl ?_
        refine w_goto (tgt := 4) dX7_mislaid_49 (by decide) ?_
        have hN := ih (i + 1) (by omega) (by omega)
        first
          | (rw [bitN_t (by omega)] at hN; exact hN)
          | (rw [bitN_f (by omega)] at hN; exact hN)
theorem c_mislaid {E : EV} {G : AH} {B tn im nw rm ru sp : Nat} {f : Nat → Nat} {wb sd si : Int32} {T Ti : ST} {D Di : LD} {P : Nat → ST × Int32} (hH : HI G B tn f wb T sd D im Ti si Di nw rm P ru sp) : Cu E 2 kX7_mislaid [.ref B] G (.int (nI (bitN (fun i => T 1 i ≠ T 0 i) (T 12 0)))) G := by
  refine Ct.intro rfl (by decide) [.ref B, .float 0, .float 0] (by simp [Value.category]) (Nat.le_of_ble_eq_true rfl) rfl ?_
  refine w_iconst (v := nI 0) dX7_mislaid_0 (by decide) ?_
  refine w_istore_1 dX7_mislaid_1 rfl ?_
  refine w_iconst (v := nI 0) dX7_mislaid_2 (by decide) ?_
  refine w_istore_2 dX7_mislaid_3 rfl ?_
  exact lp_mislaid hH ⟨rfl, rfl⟩ (T 12 0 + 1) 0 (by omega) (by omega)
theorem lp_clash {E : EV} {Q : OC → AH → Prop} {G : AH} {B tn im nw rm ru sp : Nat} {f : Nat → Nat} {wb sd si : Int32} {T Ti : ST} {D Di : LD} {P : Nat → ST × Int32} (hH : HI G B tn f wb T sd D im Ti si Di nw rm P ru sp) (hQ : Q (.inl (some (.int (nI (bitN (fun r => T 8 r < cntN 12 (bitN (fun i => T 0 i = r) (T 12 0))) (6)))))) G) : ∀ (k i : Nat), 6 - i < k → i ≤ 6 → Wp E 3 0 0 kX7_clash Q G (0, 0) 4 [.ref B, .int (nI (bitN (fun r => T 8 r < cntN 12 (bitN (fun i => T 0 i = r) (T 12 0))) i)), .int (nI i)] [] := by
  obtain ⟨hB, ⟨htn, him, hnw, hrm⟩, hT, hRd, ⟨hI, hBd⟩, hS, ⟨hL, hD, hSp, hrs⟩, ⟨hIi, hBi, hLi, hDi⟩, ⟨hPa, hPi⟩, ⟨⟨we, hwe⟩, hSm, hSv, ⟨od, hod⟩⟩⟩ := id hH; obtain ⟨⟨_, _, _, _, _, _, gS0⟩, _⟩ := id hS; have hI0 := hI.1; have hIi0 := hIi.1
  obtain ⟨i0, i1, i2, i3, i4, i5, i6, i7, i8, i9, i10, i11, i12, i13⟩ := id hI
  obtain ⟨b0, b1, b2_, b3, b4, b5, b6, b7, b8, b9, b10, b11, b12, b13, b14, b15, b16, b17, b18, b19⟩ := id hBd
  have hls := HI.ls hH
  have hla : ru + 6 ≤ B + 9 ∨ B + 9 + 14 ≤ ru := by omega
  have hlb : ru + 6 ≤ B + 23 ∨ B + 23 + 14 ≤ ru := by omega
  intro k
  induction k with
  | zero => intro i h; exact absurd h (by omega)
  | succ k ih =>
    intro i hk hi
    refine w_iload_n dX7_clash_4 rfl ?_
    refine w_bipush (v := nI 6) dX7_clash_5 (by decide) ?_
    refine w_icmp_ge (tgt := 54) dX7_clash_7 (by decide) (fun c_7 => ?_) (fun c_7 => ?_)
    · try simp (disch := omega) only [nI_b2, Decidable.not_not, nI_ltI, nI_leI, nI_eq, ge_iff_le, gt_iff_lt, ne_eq, Nat.not_lt, Nat.not_le] at c_7
      refine w_iload_n dX7_clash_54 rfl ?_
      refine w_iret dX7_clash_55 rfl (Nat.le_of_ble_eq_true rfl) (Nat.le_of_ble_eq_true rfl) ?_
      rw [show i = 6 by omega]
      exact hQ
    · try simp (disch := omega) only [nI_b2, Decidable.not_not, nI_ltI, nI_leI, nI_eq, ge_iff_le, gt_iff_lt, ne_eq, Nat.not_lt, Nat.not_le] at c_7
      have hb3 := b3 i; have hb2 := b2_ i; have hb1 := b1 i; have hb7 := b7 i; have hb8 := b8 i; have hb9 := b9 i
      have hcn := cntN_le (bitN (fun j => T 0 j = i) (T 12 0)) 12
      refine w_aload_n dX7_clash_10 rfl ?_
      refine w_getf dX7_clash_11 fl_X7_37 (by first | assumption | exact gs_at | (rw [gs_ne (by omega)]; (first | assumption | exact gs_at | (rw [gs_ne (by omega)]; (first | assumption | exact gs_at | (rw [gs_ne (by omega)]; (first | assumption | exact gs_at | (rw [gs_ne (by omega)]; (first | assumption | exact gs_at))))))))) rfl ?_
      refine w_aload_n dX7_clash_14 rfl ?_
      refine w_getf dX7_clash_15 fl_X7_37 (by first | assumption | exact gs_at | (rw [gs_ne (by omega)]; (first | assumption | exact gs_at | (rw [gs_ne (by omega)]; (first | assumption | exact gs_at | (rw [gs_ne (by omega)]; (first | assumption | exact gs_at | (rw [gs_ne (by omega)]; (first | assumption | exact gs_at))))))))) rfl ?_
      refine w_getf dX7_clash_18 fl_X7_141 (by first | assumption | exact gs_at | (rw [gs_ne (by omega)]; (first | assumption | exact gs_at | (rw [gs_ne (by omega)]; (first | assumption | exact gs_at | (rw [gs_ne (by omega)]; (first | assumption | exact gs_at | (rw [gs_ne (by omega)]; (first | assumption | exact gs_at))))))))) rfl ?_
      refine w_iload_n dX7_clash_21 rfl ?_
      refine wV2u dX7_clash_22 lk_X7_179 rfl (by first | assumption | exact gs_at | (rw [gs_ne (by omega)]; (first | assumption | exact gs_at | (rw [gs_ne (by omega)]; (first | assumption | exact gs_at | (rw [gs_ne (by omega)]; (first | assumption | exact gs_at | (rw [gs_ne (by omega)]; (first | assumption | exact gs_at))))))))) rfl rfl (c_itemsWith (f := fun i => T 0 i) hI hBd i1 (fun i => by have := b1 i; have := b2_ i; have := b5 i; (try dsimp only); omega) (by omega)) (Nat.le_of_ble_eq_true rfl) (Nat.le_of_ble_eq_true rfl) (Nat.le_of_ble_eq_true rfl) (Nat.le_of_ble_eq_true rfl) ?_
      refine wJ1u dX7_clash_25 lk_X7_227 rfl (c_bitCount (bitN_12 _ b0)) (Nat.le_of_ble_eq_true rfl) (Nat.le_of_ble_eq_true rfl) (Nat.le_of_ble_eq_true rfl) (Nat.le_of_ble_eq_true rfl) ?_
      refine w_aload_n dX7_clash_28 rfl ?_
      refine w_getf dX7_clash_29 fl_X7_37 (by first | assumption | exact gs_at | (rw [gs_ne (by omega)]; (first | assumption | exact gs_at | (rw [gs_ne (by omega)]; (first | assumption | exact gs_at | (rw [gs_ne (by omega)]; (first | assumption | exact gs_at | (rw [gs_ne (by omega)]; (first | assumption | exact gs_at))))))))) rfl ?_
      refine w_getf dX7_clash_32 fl_X7_176 (by first | assumption | exact gs_at | (rw [gs_ne (by omega)]; (first | assumption | exact gs_at | (rw [gs_ne (by omega)]; (first | assumption | exact gs_at | (rw [gs_ne (by omega)]; (first | assumption | exact gs_at | (rw [gs_ne (by omega)]; (first | assumption | exact gs_at))))))))) rfl ?_
      refine w_iload_n dX7_clash_35 rfl ?_
      refine wS2u dX7_clash_36 lk_X7_137 rfl (c_atN (f := fun i => nI (T 8 i)) i9 (by omega) (by decide)) (Nat.le_of_ble_eq_true rfl) (Nat.le_of_ble_eq_true rfl) (Nat.le_of_ble_eq_true rfl) (Nat.le_of_ble_eq_true rfl) ?_
      refine w_icmp_le (tgt := 48) dX7_clash_39 (by decide) (fun c_39 => ?_) (fun c_39 => ?_)
      · try simp (disch := omega) only [nI_b2, Decidable.not_not, nI_ltI, nI_leI, nI_eq, ge_iff_le, gt_iff_lt, ne_eq, Nat.not_lt, Nat.not_le] at c_39
        first | refine w_iinc_2 dX7_clash_48 (nI_inc _) rfl ?_ | refine w_iinc_2 dX7_clash_48 rfl rfl ?_
        refine w_goto (tgt := 4) dX7_clash_51 (by decide) ?_
        have hN := ih (i + 1) (by omega) (by omega)
        first
          | (rw [bitN_t (by omega)] at hN; exact hN)
          | (rw [bitN_f (by omega)] at hN; exact hN)
      · try simp (disch := omega) only [nI_b2, Decidable.not_not, nI_ltI, nI_leI, nI_eq, ge_iff_le, gt_iff_lt, ne_eq, Nat.not_lt, Nat.not_le] at c_39
        refine w_iload_n dX7_clash_42 rfl ?_
        refine w_iconst (v := nI 1) dX7_clash_43 (by decide) ?_
        refine w_iload_n dX7_clash_44 rfl ?_
        refine w_ishlN (by omega) (p2_lt (by omega)) dX7_clash_45 ?_
        first | refine w_iorN dX7_clash_46 ?_ | refine w_ior dX7_clash_46 ?_
        refine w_istore_1 dX7_clash_47 rfl ?_
        first | refine w_iinc_2 dX7_clash_48 (nI_inc _) rfl ?_ | refine w_iinc_2 dX7_clash_48 rfl rfl ?_
        refine w_goto (tgt := 4) dX7_clash_51 (by decide) ?_
        have hN := ih (i + 1) (by omega) (by omega)
        first
          | (rw [bitN_t (by omega)] at hN; exact hN)
          | (rw [bitN_f (by omega)] at hN; exact hN)
theorem c_clash {E : EV} {G : AH} {B tn im nw rm ru sp : Nat} {f : Nat → Nat} {wb sd si : Int32} {T Ti : ST} {D Di : LD} {P : Nat → ST × Int32} (hH : HI G B tn f wb T sd D im Ti si Di nw rm P ru sp) : Cu E 3 kX7_clash [.ref B] G (.int (nI (bitN (fun r => T 8 r < cntN 12 (bitN (fun i => T 0 i = r) (T 12 0))) (6)))) G := by
  refine Ct.intro rfl (by decide) [.ref B, .float 0, .float 0] (by simp [Value.category]) (Nat.le_of_ble_eq_true rfl) rfl ?_
  refine w_iconst (v := nI 0) dX7_clash_0 (by decide) ?_
  refine w_istore_1 dX7_clash_1 rfl ?_
  refine w_iconst (v := nI 0) dX7_clash_2 (by decide) ?_
  refine w_istore_2 dX7_clash_3 rfl ?_
  exact lp_clash hH ⟨rfl, rfl⟩ (6 + 1) 0 (by omega) (by omega)
theorem lp_full {E : EV} {Q : OC → AH → Prop} {G : AH} {B tn im nw rm ru sp : Nat} {f : Nat → Nat} {wb sd si : Int32} {T Ti : ST} {D Di : LD} {P : Nat → ST × Int32} (hH : HI G B tn f wb T sd D im Ti si Di nw rm P ru sp) (hQ : Q (.inl (some (.int (nI (bitN (fun r => T 8 r ≤ cntN 12 (bitN (fun i => T 1 i = r) (T 12 0))) (6)))))) G) : ∀ (k i : Nat), 6 - i < k → i ≤ 6 → Wp E 3 0 0 kX7_full Q G (0, 0) 4 [.ref B, .int (nI (bitN (fun r => T 8 r ≤ cntN 12 (bitN (fun i => T 1 i = r) (T 12 0))) i)), .int (nI i)] [] := by
  obtain ⟨hB, ⟨htn, him, hnw, hrm⟩, hT, hRd, ⟨hI, hBd⟩, hS, ⟨hL, hD, hSp, hrs⟩, ⟨hIi, hBi, hLi, hDi⟩, ⟨hPa, hPi⟩, ⟨⟨we, hwe⟩, hSm, hSv, ⟨od, hod⟩⟩⟩ := id hH; obtain ⟨⟨_, _, _, _, _, _, gS0⟩, _⟩ := id hS; have hI0 := hI.1; have hIi0 := hIi.1
  obtain ⟨i0, i1, i2, i3, i4, i5, i6, i7, i8, i9, i10, i11, i12, i13⟩ := id hI
  obtain ⟨b0, b1, b2_, b3, b4, b5, b6, b7, b8, b9, b10, b11, b12, b13, b14, b15, b16, b17, b18, b19⟩ := id hBd
  have hls := HI.ls hH
  have hla : ru + 6 ≤ B + 9 ∨ B + 9 + 14 ≤ ru := by omega
  have hlb : ru + 6 ≤ B + 23 ∨ B + 23 + 14 ≤ ru := by omega
  intro k
  induction k with
  | zero => intro i h; exact absurd h (by omega)
  | succ k ih =>
    intro i hk hi
    refine w_iload_n dX7_full_4 rfl ?_
    refine w_bipush (v := nI 6) dX7_full_5 (by decide) ?_
    refine w_icmp_ge (tgt := 54) dX7_full_7 (by decide) (fun c_7 => ?_) (fun c_7 => ?_)
    · try simp (disch := omega) only [nI_b2, Decidable.not_not, nI_ltI, nI_leI, nI_eq, ge_iff_le, gt_iff_lt, ne_eq, Nat.not_lt, Nat.not_le] at c_7
      refine w_iload_n dX7_full_54 rfl ?_
      refine w_iret dX7_full_55 rfl (Nat.le_of_ble_eq_true rfl) (Nat.le_of_ble_eq_true rfl) ?_
      rw [show i = 6 by omega]
      exact hQ
    · try simp (disch := omega) only [nI_b2, Decidable.not_not, nI_ltI, nI_leI, nI_eq, ge_iff_le, gt_iff_lt, ne_eq, Nat.not_lt, Nat.not_le] at c_7
      have hb3 := b3 i; have hb2 := b2_ i; have hb1 := b1 i; have hb7 := b7 i; have hb8 := b8 i; have hb9 := b9 i
      have hcn := cntN_le (bitN (fun j => T 1 j = i) (T 12 0)) 12
      refine w_aload_n dX7_full_10 rfl ?_
      refine w_getf dX7_full_11 fl_X7_37 (by first | assumption | exact gs_at | (rw [gs_ne (by omega)]; (first | assumption | exact gs_at | (rw [gs_ne (by omega)]; (first | assumption | exact gs_at | (rw [gs_ne (by omega)]; (first | assumption | exact gs_at | (rw [gs_ne (by omega)]; (first | assumption | exact gs_at))))))))) rfl ?_
      refine w_aload_n dX7_full_14 rfl ?_
      refine w_getf dX7_full_15 fl_X7_37 (by first | assumption | exact gs_at | (rw [gs_ne (by omega)]; (first | assumption | exact gs_at | (rw [gs_ne (by omega)]; (first | assumption | exact gs_at | (rw [gs_ne (by omega)]; (first | assumption | exact gs_at | (rw [gs_ne (by omega)]; (first | assumption | exact gs_at))))))))) rfl ?_
      refine w_getf dX7_full_18 fl_X7_134 (by first | assumption | exact gs_at | (rw [gs_ne (by omega)]; (first | assumption | exact gs_at | (rw [gs_ne (by omega)]; (first | assumption | exact gs_at | (rw [gs_ne (by omega)]; (first | assumption | exact gs_at | (rw [gs_ne (by omega)]; (first | assumption | exact gs_at))))))))) rfl ?_
      refine w_iload_n dX7_full_21 rfl ?_
      refine wV2u dX7_full_22 lk_X7_179 rfl (by first | assumption | exact gs_at | (rw [gs_ne (by omega)]; (first | assumption | exact gs_at | (rw [gs_ne (by omega)]; (first | assumption | exact gs_at | (rw [gs_ne (by omega)]; (first | assumption | exact gs_at | (rw [gs_ne (by omega)]; (first | assumption | exact gs_at))))))))) rfl rfl (c_itemsWith (f := fun i => T 1 i) hI hBd i2 (fun i => by have := b1 i; have := b2_ i; have := b5 i; (try dsimp only); omega) (by omega)) (Nat.le_of_ble_eq_true rfl) (Nat.le_of_ble_eq_true rfl) (Nat.le_of_ble_eq_true rfl) (Nat.le_of_ble_eq_true rfl) ?_
      refine wJ1u dX7_full_25 lk_X7_227 rfl (c_bitCount (bitN_12 _ b0)) (Nat.le_of_ble_eq_true rfl) (Nat.le_of_ble_eq_true rfl) (Nat.le_of_ble_eq_true rfl) (Nat.le_of_ble_eq_true rfl) ?_
      refine w_aload_n dX7_full_28 rfl ?_
      refine w_getf dX7_full_29 fl_X7_37 (by first | assumption | exact gs_at | (rw [gs_ne (by omega)]; (first | assumption | exact gs_at | (rw [gs_ne (by omega)]; (first | assumption | exact gs_at | (rw [gs_ne (by omega)]; (first | assumption | exact gs_at | (rw [gs_ne (by omega)]; (first | assumption | exact gs_at))))))))) rfl ?_
      refine w_getf dX7_full_32 fl_X7_176 (by first | assumption | exact gs_at | (rw [gs_ne (by omega)]; (first | assumption | exact gs_at | (rw [gs_ne (by omega)]; (first | assumption | exact gs_at | (rw [gs_ne (by omega)]; (first | assumption | exact gs_at | (rw [gs_ne (by omega)]; (first | assumption | exact gs_at))))))))) rfl ?_
      refine w_iload_n dX7_full_35 rfl ?_
      refine wS2u dX7_full_36 lk_X7_137 rfl (c_atN (f := fun i => nI (T 8 i)) i9 (by omega) (by decide)) (Nat.le_of_ble_eq_true rfl) (Nat.le_of_ble_eq_true rfl) (Nat.le_of_ble_eq_true rfl) (Nat.le_of_ble_eq_true rfl) ?_
      refine w_icmp_lt (tgt := 48) dX7_full_39 (by decide) (fun c_39 => ?_) (fun c_39 => ?_)
      · try simp (disch := omega) only [nI_b2, Decidable.not_not, nI_ltI, nI_leI, nI_eq, ge_iff_le, gt_iff_lt, ne_eq, Nat.not_lt, Nat.not_le] at c_39
        first | refine w_iinc_2 dX7_full_48 (nI_inc _) rfl ?_ | refine w_iinc_2 dX7_full_48 rfl rfl ?_
        refine w_goto (tgt := 4) dX7_full_51 (by decide) ?_
        have hN := ih (i + 1) (by omega) (by omega)
        first
          | (rw [bitN_t (by omega)] at hN; exact hN)
          | (rw [bitN_f (by omega)] at hN; exact hN)
      · try simp (disch := omega) only [nI_b2, Decidable.not_not, nI_ltI, nI_leI, nI_eq, ge_iff_le, gt_iff_lt, ne_eq, Nat.not_lt, Nat.not_le] at c_39
        refine w_iload_n dX7_full_42 rfl ?_
        refine w_iconst (v := nI 1) dX7_full_43 (by decide) ?_
        refine w_iload_n dX7_full_44 rfl ?_
        refine w_ishlN (by omega) (p2_lt (by omega)) dX7_full_45 ?_
        first | refine w_iorN dX7_full_46 ?_ | refine w_ior dX7_full_46 ?_
        refine w_istore_1 dX7_full_47 rfl ?_
        first | refine w_iinc_2 dX7_full_48 (nI_inc _) rfl ?_ | refine w_iinc_2 dX7_full_48 rfl rfl ?_
        refine w_goto (tgt := 4) dX7_full_51 (by decide) ?_
        have hN := ih (i + 1) (by omega) (by omega)
        first
          | (rw [bitN_t (by omega)] at hN; exact hN)
          | (rw [bitN_f (by omega)] at hN; exact hN)
theorem c_full {E : EV} {G : AH} {B tn im nw rm ru sp : Nat} {f : Nat → Nat} {wb sd si : Int32} {T Ti : ST} {D Di : LD} {P : Nat → ST × Int32} (hH : HI G B tn f wb T sd D im Ti si Di nw rm P ru sp) : Cu E 3 kX7_full [.ref B] G (.int (nI (bitN (fun r => T 8 r ≤ cntN 12 (bitN (fun i => T 1 i = r) (T 12 0))) (6)))) G := by
  refine Ct.intro rfl (by decide) [.ref B, .float 0, .float 0] (by simp [Value.category]) (Nat.le_of_ble_eq_true rfl) rfl ?_
  refine w_iconst (v := nI 0) dX7_full_0 (by decide) ?_
  refine w_istore_1 dX7_full_1 rfl ?_
  refine w_iconst (v := nI 0) dX7_full_2 (by decide) ?_
  refine w_istore_2 dX7_full_3 rfl ?_
  exact lp_full hH ⟨rfl, rfl⟩ (6 + 1) 0 (by omega) (by omega)
def ricN (T : ST) : Nat → Nat | 0 => 0 | k + 1 => if valIn T (ricN T k) < valIn T k then k else ricN T k
theorem ricN_lt (T : ST) : ∀ k, ricN T (k + 1) ≤ k
  | 0 => by rw [ricN]; split <;> exact Nat.le_refl _
  | k + 1 => by have := ricN_lt T k; rw [ricN]; split <;> omega
theorem valIn_le {T : ST} (hB : Bd T) (r : Nat) : valIn T r ≤ 1188 := by
  have h := sumN_le (f := fun i => if T 1 i = r then T 3 i else 0) (c := 99) (fun i => by have := hB.2.2.2.2.1 i; (try dsimp only); split <;> omega) (T 12 0)
  have := hB.1
  unfold valIn
  omega
theorem lp_richest {E : EV} {Q : OC → AH → Prop} {G : AH} {B tn im nw rm ru sp : Nat} {f : Nat → Nat} {wb sd si : Int32} {T Ti : ST} {D Di : LD} {P : Nat → ST × Int32} (hH : HI G B tn f wb T sd D im Ti si Di nw rm P ru sp) (hQ : Q (.inl (some (.int (nI (ricN T 6))))) G) : ∀ (k i : Nat), 6 - i < k → i ≤ 6 → ∀ z : Value, Wp E 3 0 0 kX7_richest Q G (0, 0) 6 [.ref B, .int (nI (ricN T i)), .int (nI (if i = 0 then 0 else valIn T (ricN T i))), .int (nI i), z] [] := by
  obtain ⟨hB, ⟨htn, him, hnw, hrm⟩, hT, hRd, ⟨hI, hBd⟩, hS, ⟨hL, hD, hSp, hrs⟩, ⟨hIi, hBi, hLi, hDi⟩, ⟨hPa, hPi⟩, ⟨⟨we, hwe⟩, hSm, hSv, ⟨od, hod⟩⟩⟩ := id hH; obtain ⟨⟨_, _, _, _, _, _, gS0⟩, _⟩ := id hS; have hI0 := hI.1; have hIi0 := hIi.1
  obtain ⟨i0, i1, i2, i3, i4, i5, i6, i7, i8, i9, i10, i11, i12, i13⟩ := id hI
  obtain ⟨b0, b1, b2_, b3, b4, b5, b6, b7, b8, b9, b10, b11, b12, b13, b14, b15, b16, b17, b18, b19⟩ := id hBd
  have hls := HI.ls hH
  have hla : ru + 6 ≤ B + 9 ∨ B + 9 + 14 ≤ ru := by omega
  have hlb : ru + 6 ≤ B + 23 ∨ B + 23 + 14 ≤ ru := by omega
  intro k
  induction k with
  | zero => intro i h; exact absurd h (by omega)
  | succ k ih =>
    intro i hk hi
    intro z
    refine w_iload_n dX7_richest_6 rfl ?_
    refine w_bipush (v := nI 6) dX7_richest_7 (by decide) ?_
    refine w_icmp_ge (tgt := 39) dX7_richest_9 (by decide) (fun c_9 => ?_) (fun c_9 => ?_)
    · try simp (disch := omega) only [nI_b2, Decidable.not_not, nI_ltI, nI_leI, nI_eq, ge_iff_le, gt_iff_lt, ne_eq, Nat.not_lt, Nat.not_le] at c_9
      refine w_iload_n dX7_richest_39 rfl ?_
      refine w_iret dX7_richest_40 rfl (Nat.le_of_ble_eq_true rfl) (Nat.le_of_ble_eq_true rfl) ?_
      rw [show i = 6 by omega]
      exact hQ
    · try simp (disch := omega) only [nI_b2, Decidable.not_not, nI_ltI, nI_leI, nI_eq, ge_iff_le, gt_iff_lt, ne_eq, Nat.not_lt, Nat.not_le] at c_9
      have hv1 := valIn_le hBd i; have hv2 := valIn_le hBd (ricN T i)
      have hmx : (if i = 0 then 0 else valIn T (ricN T i)) ≤ 1188 := by split <;> omega
      refine w_aload_n dX7_richest_12 rfl ?_
      refine w_getf dX7_richest_13 fl_X7_37 (by first | assumption | exact gs_at | (rw [gs_ne (by omega)]; (first | assumption | exact gs_at | (rw [gs_ne (by omega)]; (first | assumption | exact gs_at | (rw [gs_ne (by omega)]; (first | assumption | exact gs_at | (rw [gs_ne (by omega)]; (first | assumption | exact gs_at))))))))) rfl ?_
      refine w_iload_n dX7_richest_16 rfl ?_
      refine wV1u dX7_richest_17 lk_X7_310 rfl (by first | assumption | exact gs_at | (rw [gs_ne (by omega)]; (first | assumption | exact gs_at | (rw [gs_ne (by omega)]; (first | assumption | exact gs_at | (rw [gs_ne (by omega)]; (first | assumption | exact gs_at | (rw [gs_ne (by omega)]; (first | assumption | exact gs_at))))))))) rfl rfl (c_valueIn hI hBd (by omega)) (Nat.le_of_ble_eq_true rfl) (Nat.le_of_ble_eq_true rfl) (Nat.le_of_ble_eq_true rfl) (Nat.le_of_ble_eq_true rfl) ?_
      refine w_istore_4 dX7_richest_20 rfl ?_
      refine w_iload dX7_richest_22 rfl ?_
      refine w_iload_n dX7_richest_24 rfl ?_
      refine w_icmp_le (tgt := 33) dX7_richest_25 (by decide) (fun c_25 => ?_) (fun c_25 => ?_)
      · try simp (disch := omega) only [nI_b2, Decidable.not_not, nI_ltI, nI_leI, nI_eq, ge_iff_le, gt_iff_lt, ne_eq, Nat.not_lt, Nat.not_le] at c_25
        first | refine w_iinc_3 dX7_richest_33 (nI_inc _) rfl ?_ | refine w_iinc_3 dX7_richest_33 rfl rfl ?_
        refine w_goto (tgt := 6) dX7_richest_36 (by decide) ?_
        have hN := ih (i + 1) (by omega) (by omega) (.int (nI (valIn T i)))
        rw [if_neg (show ¬ i + 1 = 0 by omega)] at hN
        by_cases h0 : i = 0
        · subst h0
          have e1 : ricN T 1 = 0 := Nat.le_zero.mp (ricN_lt T 0)
          rw [e1] at hN
          first
            | exact hN
            | (rw [if_pos rfl] at c_25; have e0 : valIn T 0 = 0 := (by omega); rw [e0] at hN ⊢; exact hN)
        · rw [if_neg h0] at c_25
          rw [ricN] at hN
          try rw [if_neg h0]
          first
            | (rw [if_pos (by omega)] at hN; exact hN)
            | (rw [if_neg (by omega)] at hN; exact hN)
      · try simp (disch := omega) only [nI_b2, Decidable.not_not, nI_ltI, nI_leI, nI_eq, ge_iff_le, gt_iff_lt, ne_eq, Nat.not_lt, Nat.not_le] at c_25
        refine w_iload_n dX7_richest_28 rfl ?_
        refine w_istore_1 dX7_richest_29 rfl ?_
        refine w_iload dX7_richest_30 rfl ?_
        refine w_istore_2 dX7_richest_32 rfl ?_
        first | refine w_iinc_3 dX7_richest_33 (nI_inc _) rfl ?_ | refine w_iinc_3 dX7_richest_33 rfl rfl ?_
        refine w_goto (tgt := 6) dX7_richest_36 (by decide) ?_
        have hN := ih (i + 1) (by omega) (by omega) (.int (nI (valIn T i)))
        rw [if_neg (show ¬ i + 1 = 0 by omega)] at hN
        by_cases h0 : i = 0
        · subst h0
          have e1 : ricN T 1 = 0 := Nat.le_zero.mp (ricN_lt T 0)
          rw [e1] at hN
          first
            | exact hN
            | (rw [if_pos rfl] at c_25; have e0 : valIn T 0 = 0 := (by omega); rw [e0] at hN ⊢; exact hN)
        · rw [if_neg h0] at c_25
          rw [ricN] at hN
          try rw [if_neg h0]
          first
            | (rw [if_pos (by omega)] at hN; exact hN)
            | (rw [if_neg (by omega)] at hN; exact hN)
theorem c_richest {E : EV} {G : AH} {B tn im nw rm ru sp : Nat} {f : Nat → Nat} {wb sd si : Int32} {T Ti : ST} {D Di : LD} {P : Nat → ST × Int32} (hH : HI G B tn f wb T sd D im Ti si Di nw rm P ru sp) : Cu E 3 kX7_richest [.ref B] G (.int (nI (ricN T 6))) G := by
  refine Ct.intro rfl (by decide) [.ref B, .float 0, .float 0, .float 0, .float 0] (by simp [Value.category]) (Nat.le_of_ble_eq_true rfl) rfl ?_
  refine w_iconst (v := nI 0) dX7_richest_0 (by decide) ?_
  refine w_istore_1 dX7_richest_1 rfl ?_
  refine w_iconst (v := nI 0) dX7_richest_2 (by decide) ?_
  refine w_istore_2 dX7_richest_3 rfl ?_
  refine w_iconst (v := nI 0) dX7_richest_4 (by decide) ?_
  refine w_istore_3 dX7_richest_5 rfl ?_
  exact lp_richest hH ⟨rfl, rfl⟩ 7 0 (by omega) (by omega) _
def likN (T Ti : ST) : Nat → Nat | 0 => 0 | i + 1 => likN T Ti i + (if T 1 i = Ti 1 i ∧ T 2 i = Ti 2 i then 1 else 0)
theorem likN_le (T Ti : ST) : ∀ i, likN T Ti i ≤ i
  | 0 => Nat.le_refl _
  | i + 1 => by have := likN_le T Ti i; rw [likN]; split <;> omega
theorem lp_like {E : EV} {Q : OC → AH → Prop} {G : AH} {B tn im nw rm ru sp : Nat} {f : Nat → Nat} {wb sd si : Int32} {T Ti : ST} {D Di : LD} {P : Nat → ST × Int32} (hH : HI G B tn f wb T sd D im Ti si Di nw rm P ru sp) (hQ : Q (.inl (some (.int (nI (likN T Ti (min (T 12 0) (Ti 12 0))))))) G) : ∀ (k i : Nat), (min (T 12 0) (Ti 12 0)) - i < k → i ≤ (min (T 12 0) (Ti 12 0)) → Wp E 2 0 0 kX7_like Q G (0, 0) 13 [.ref B, .int (nI (likN T Ti i)), .int (nI i)] [] := by
  obtain ⟨hB, ⟨htn, him, hnw, hrm⟩, hT, hRd, ⟨hI, hBd⟩, hS, ⟨hL, hD, hSp, hrs⟩, ⟨hIi, hBi, hLi, hDi⟩, ⟨hPa, hPi⟩, ⟨⟨we, hwe⟩, hSm, hSv, ⟨od, hod⟩⟩⟩ := id hH; obtain ⟨⟨_, _, _, _, _, _, gS0⟩, _⟩ := id hS; have hI0 := hI.1; have hIi0 := hIi.1
  obtain ⟨i0, i1, i2, i3, i4, i5, i6, i7, i8, i9, i10, i11, i12, i13⟩ := id hI
  obtain ⟨b0, b1, b2_, b3, b4, b5, b6, b7, b8, b9, b10, b11, b12, b13, b14, b15, b16, b17, b18, b19⟩ := id hBd
  have hls := HI.ls hH
  have hla : ru + 6 ≤ B + 9 ∨ B + 9 + 14 ≤ ru := by omega
  have hlb : ru + 6 ≤ B + 23 ∨ B + 23 + 14 ≤ ru := by omega
  obtain ⟨j0, j1, j2, j3, j4, j5, j6, j7, j8, j9, j10, j11, j12, j13⟩ := id hIi
  have q0 := hBi.1; have q2 := hBi.2.2.1; have q3 := hBi.2.2.2.1
  intro k
  induction k with
  | zero => intro i h; exact absurd h (by omega)
  | succ k ih =>
    intro i hk hi
    refine w_iload_n dX7_like_13 rfl ?_
    refine w_aload_n dX7_like_14 rfl ?_
    refine w_getf dX7_like_15 fl_X7_37 (by first | assumption | exact gs_at | (rw [gs_ne (by omega)]; (first | assumption | exact gs_at | (rw [gs_ne (by omega)]; (first | assumption | exact gs_at | (rw [gs_ne (by omega)]; (first | assumption | exact gs_at | (rw [gs_ne (by omega)]; (first | assumption | exact gs_at))))))))) rfl ?_
    refine w_getf dX7_like_18 fl_X7_242 (by first | assumption | exact gs_at | (rw [gs_ne (by omega)]; (first | assumption | exact gs_at | (rw [gs_ne (by omega)]; (first | assumption | exact gs_at | (rw [gs_ne (by omega)]; (first | assumption | exact gs_at | (rw [gs_ne (by omega)]; (first | assumption | exact gs_at))))))))) rfl ?_
    refine w_icmp_ge (tgt := 94) dX7_like_21 (by decide) (fun c_21 => ?_) (fun c_21 => ?_)
    · try simp (disch := omega) only [nI_b2, Decidable.not_not, nI_ltI, nI_leI, nI_eq, ge_iff_le, gt_iff_lt, ne_eq, Nat.not_lt, Nat.not_le] at c_21
      refine w_iload_n dX7_like_94 rfl ?_
      refine w_iret dX7_like_95 rfl (Nat.le_of_ble_eq_true rfl) (Nat.le_of_ble_eq_true rfl) ?_
      rw [show i = min (T 12 0) (Ti 12 0) by omega]
      exact hQ
    · try simp (disch := omega) only [nI_b2, Decidable.not_not, nI_ltI, nI_leI, nI_eq, ge_iff_le, gt_iff_lt, ne_eq, Nat.not_lt, Nat.not_le] at c_21
      refine w_iload_n dX7_like_24 rfl ?_
      refine w_aload_n dX7_like_25 rfl ?_
      refine w_getf dX7_like_26 fl_X7_58 (by first | assumption | exact gs_at | (rw [gs_ne (by omega)]; (first | assumption | exact gs_at | (rw [gs_ne (by omega)]; (first | assumption | exact gs_at | (rw [gs_ne (by omega)]; (first | assumption | exact gs_at | (rw [gs_ne (by omega)]; (first | assumption | exact gs_at))))))))) rfl ?_
      refine w_getf dX7_like_29 fl_X7_242 (by first | assumption | exact gs_at | (rw [gs_ne (by omega)]; (first | assumption | exact gs_at | (rw [gs_ne (by omega)]; (first | assumption | exact gs_at | (rw [gs_ne (by omega)]; (first | assumption | exact gs_at | (rw [gs_ne (by omega)]; (first | assumption | exact gs_at))))))))) rfl ?_
      refine w_icmp_ge (tgt := 94) dX7_like_32 (by decide) (fun c_32 => ?_) (fun c_32 => ?_)
      · try simp (disch := omega) only [nI_b2, Decidable.not_not, nI_ltI, nI_leI, nI_eq, ge_iff_le, gt_iff_lt, ne_eq, Nat.not_lt, Nat.not_le] at c_32
        refine w_iload_n dX7_like_94 rfl ?_
        refine w_iret dX7_like_95 rfl (Nat.le_of_ble_eq_true rfl) (Nat.le_of_ble_eq_true rfl) ?_
        rw [show i = min (T 12 0) (Ti 12 0) by omega]
        exact hQ
      · try simp (disch := omega) only [nI_b2, Decidable.not_not, nI_ltI, nI_leI, nI_eq, ge_iff_le, gt_iff_lt, ne_eq, Nat.not_lt, Nat.not_le] at c_32
        have hb3 := b3 i; have hb2 := b2_ i; have hc3 := q3 i; have hc2 := q2 i
        refine w_aload_n dX7_like_35 rfl ?_
        refine w_getf dX7_like_36 fl_X7_37 (by first | assumption | exact gs_at | (rw [gs_ne (by omega)]; (first | assumption | exact gs_at | (rw [gs_ne (by omega)]; (first | assumption | exact gs_at | (rw [gs_ne (by omega)]; (first | assumption | exact gs_at | (rw [gs_ne (by omega)]; (first | assumption | exact gs_at))))))))) rfl ?_
        refine w_getf dX7_like_39 fl_X7_134 (by first | assumption | exact gs_at | (rw [gs_ne (by omega)]; (first | assumption | exact gs_at | (rw [gs_ne (by omega)]; (first | assumption | exact gs_at | (rw [gs_ne (by omega)]; (first | assumption | exact gs_at | (rw [gs_ne (by omega)]; (first | assumption | exact gs_at))))))))) rfl ?_
        refine w_iload_n dX7_like_42 rfl ?_
        refine wS2u dX7_like_43 lk_X7_137 rfl (c_atN (f := fun i => nI (T 1 i)) i2 (by omega) (by decide)) (Nat.le_of_ble_eq_true rfl) (Nat.le_of_ble_eq_true rfl) (Nat.le_of_ble_eq_true rfl) (Nat.le_of_ble_eq_true rfl) ?_
        refine w_aload_n dX7_like_46 rfl ?_
        refine w_getf dX7_like_47 fl_X7_58 (by first | assumption | exact gs_at | (rw [gs_ne (by omega)]; (first | assumption | exact gs_at | (rw [gs_ne (by omega)]; (first | assumption | exact gs_at | (rw [gs_ne (by omega)]; (first | assumption | exact gs_at | (rw [gs_ne (by omega)]; (first | assumption | exact gs_at))))))))) rfl ?_
        refine w_getf dX7_like_50 fl_X7_134 (by first | assumption | exact gs_at | (rw [gs_ne (by omega)]; (first | assumption | exact gs_at | (rw [gs_ne (by omega)]; (first | assumption | exact gs_at | (rw [gs_ne (by omega)]; (first | assumption | exact gs_at | (rw [gs_ne (by omega)]; (first | assumption | exact gs_at))))))))) rfl ?_
        refine w_iload_n dX7_like_53 rfl ?_
        refine wS2u dX7_like_54 lk_X7_137 rfl (c_atN (f := fun i => nI (Ti 1 i)) j2 (by omega) (by decide)) (Nat.le_of_ble_eq_true rfl) (Nat.le_of_ble_eq_true rfl) (Nat.le_of_ble_eq_true rfl) (Nat.le_of_ble_eq_true rfl) ?_
        refine w_icmp_ne (tgt := 88) dX7_like_57 (by decide) (fun c_57 => ?_) (fun c_57 => ?_)
        · try simp (disch := omega) only [nI_b2, Decidable.not_not, nI_ltI, nI_leI, nI_eq, ge_iff_le, gt_iff_lt, ne_eq, Nat.not_lt, Nat.not_le] at c_57
          first | refine w_iinc_2 dX7_like_88 (nI_inc _) rfl ?_ | refine w_iinc_2 dX7_like_88 rfl rfl ?_
          refine w_goto (tgt := 13) dX7_like_91 (by decide) ?_
          have hN := ih (i + 1) (by omega) (by omega)
          rw [likN] at hN
          first
            | (rw [if_pos (by omega)] at hN; exact hN)
            | (rw [if_neg (by omega)] at hN; exact hN)
        · try simp (disch := omega) only [nI_b2, Decidable.not_not, nI_ltI, nI_leI, nI_eq, ge_iff_le, gt_iff_lt, ne_eq, Nat.not_lt, Nat.not_le] at c_57
          refine w_aload_n dX7_like_60 rfl ?_
          refine w_getf dX7_like_61 fl_X7_37 (by first | assumption | exact gs_at | (rw [gs_ne (by omega)]; (first | assumption | exact gs_at | (rw [gs_ne (by omega)]; (first | assumption | exact gs_at | (rw [gs_ne (by omega)]; (first | assumption | exact gs_at | (rw [gs_ne (by omega)]; (first | assumption | exact gs_at))))))))) rfl ?_
          refine w_getf dX7_like_64 fl_X7_144 (by first | assumption | exact gs_at | (rw [gs_ne (by omega)]; (first | assumption | exact gs_at | (rw [gs_ne (by omega)]; (first | assumption | exact gs_at | (rw [gs_ne (by omega)]; (first | assumption | exact gs_at | (rw [gs_ne (by omega)]; (first | assumption | exact gs_at))))))))) rfl ?_
          refine w_iload_n dX7_like_67 rfl ?_
          refine wS2u dX7_like_68 lk_X7_137 rfl (c_atN (f := fun i => nI (T 2 i)) i3 (by omega) (by decide)) (Nat.le_of_ble_eq_true rfl) (Nat.le_of_ble_eq_true rfl) (Nat.le_of_ble_eq_true rfl) (Nat.le_of_ble_eq_true rfl) ?_
          refine w_aload_n dX7_like_71 rfl ?_
          refine w_getf dX7_like_72 fl_X7_58 (by first | assumption | exact gs_at | (rw [gs_ne (by omega)]; (first | assumption | exact gs_at | (rw [gs_ne (by omega)]; (first | assumption | exact gs_at | (rw [gs_ne (by omega)]; (first | assumption | exact gs_at | (rw [gs_ne (by omega)]; (first | assumption | exact gs_at))))))))) rfl ?_
          refine w_getf dX7_like_75 fl_X7_144 (by first | assumption | exact gs_at | (rw [gs_ne (by omega)]; (first | assumption | exact gs_at | (rw [gs_ne (by omega)]; (first | assumption | exact gs_at | (rw [gs_ne (by omega)]; (first | assumption | exact gs_at | (rw [gs_ne (by omega)]; (first | assumption | exact gs_at))))))))) rfl ?_
          refine w_iload_n dX7_like_78 rfl ?_
          refine wS2u dX7_like_79 lk_X7_137 rfl (c_atN (f := fun i => nI (Ti 2 i)) j3 (by omega) (by decide)) (Nat.le_of_ble_eq_true rfl) (Nat.le_of_ble_eq_true rfl) (Nat.le_of_ble_eq_true rfl) (Nat.le_of_ble_eq_true rfl) ?_
          refine w_icmp_ne (tgt := 88) dX7_like_82 (by decide) (fun c_82 => ?_) (fun c_82 => ?_)
          · try simp (disch := omega) only [nI_b2, Decidable.not_not, nI_ltI, nI_leI, nI_eq, ge_iff_le, gt_iff_lt, ne_eq, Nat.not_lt, Nat.not_le] at c_82
            first | refine w_iinc_2 dX7_like_88 (nI_inc _) rfl ?_ | refine w_iinc_2 dX7_like_88 rfl rfl ?_
            refine w_goto (tgt := 13) dX7_like_91 (by decide) ?_
            have hN := ih (i + 1) (by omega) (by omega)
            rw [likN] at hN
            first
              | (rw [if_pos (by omega)] at hN; exact hN)
              | (rw [if_neg (by omega)] at hN; exact hN)
          · try simp (disch := omega) only [nI_b2, Decidable.not_not, nI_ltI, nI_leI, nI_eq, ge_iff_le, gt_iff_lt, ne_eq, Nat.not_lt, Nat.not_le] at c_82
            first | refine w_iinc_1 dX7_like_85 (nI_inc _) rfl ?_ | refine w_iinc_1 dX7_like_85 rfl rfl ?_
            first | refine w_iinc_2 dX7_like_88 (nI_inc _) rfl ?_ | refine w_iinc_2 dX7_like_88 rfl rfl ?_
            refine w_goto (tgt := 13) dX7_like_91 (by decide) ?_
            have hN := ih (i + 1) (by omega) (by omega)
            rw [likN] at hN
            first
              | (rw [if_pos (by omega)] at hN; exact hN)
              | (rw [if_neg (by omega)] at hN; exact hN)
def likV (im : Nat) (T Ti : ST) : Int32 := if im = 0 then -1 else nI (likN T Ti (min (T 12 0) (Ti 12 0)))
theorem c_like {E : EV} {G : AH} {B tn im nw rm ru sp : Nat} {f : Nat → Nat} {wb sd si : Int32} {T Ti : ST} {D Di : LD} {P : Nat → ST × Int32}  (hH : HI G B tn f wb T sd D im Ti si Di nw rm P ru sp)  : Cu E 2 kX7_like [.ref B] G (.int (likV im T Ti)) G := by
  obtain ⟨hB, ⟨htn, him, hnw, hrm⟩, hT, hRd, ⟨hI, hBd⟩, hS, ⟨hL, hD, hSp, hrs⟩, ⟨hIi, hBi, hLi, hDi⟩, ⟨hPa, hPi⟩, ⟨⟨we, hwe⟩, hSm, hSv, ⟨od, hod⟩⟩⟩ := id hH; obtain ⟨⟨_, _, _, _, _, _, gS0⟩, _⟩ := id hS; have hI0 := hI.1; have hIi0 := hIi.1
  obtain ⟨i0, i1, i2, i3, i4, i5, i6, i7, i8, i9, i10, i11, i12, i13⟩ := id hI
  obtain ⟨b0, b1, b2_, b3, b4, b5, b6, b7, b8, b9, b10, b11, b12, b13, b14, b15, b16, b17, b18, b19⟩ := id hBd
  have hls := HI.ls hH
  have hla : ru + 6 ≤ B + 9 ∨ B + 9 + 14 ≤ ru := by omega
  have hlb : ru + 6 ≤ B + 23 ∨ B + 23 + 14 ≤ ru := by omega
  refine Ct.intro rfl (by decide) [.ref B, .float 0, .float 0] (by simp [Value.category]) (Nat.le_of_ble_eq_true rfl) rfl ?_
  refine w_aload_n dX7_like_0 rfl ?_
  refine w_getf dX7_like_1 fl_X7_54 (by first | assumption | exact gs_at | (rw [gs_ne (by omega)]; (first | assumption | exact gs_at | (rw [gs_ne (by omega)]; (first | assumption | exact gs_at | (rw [gs_ne (by omega)]; (first | assumption | exact gs_at | (rw [gs_ne (by omega)]; (first | assumption | exact gs_at))))))))) rfl ?_
  refine w_ifN_ne (tgt := 9) dX7_like_4 (by decide) (fun c_4 => ?_) (fun c_4 => ?_)
  · try simp (disch := omega) only [nI_b2, Decidable.not_not, nI_ltI, nI_leI, nI_eq, ge_iff_le, gt_iff_lt, ne_eq, Nat.not_lt, Nat.not_le] at c_4
    refine w_iconst (v := nI 0) dX7_like_9 (by decide) ?_
    refine w_istore_1 dX7_like_10 rfl ?_
    refine w_iconst (v := nI 0) dX7_like_11 (by decide) ?_
    refine w_istore_2 dX7_like_12 rfl ?_
    exact lp_like hH (Q := fun o G1 => o = .inl (some (.int (likV im T Ti))) ∧ G1 = G) ⟨by rw [likV, if_neg (by omega)], rfl⟩ (min (T 12 0) (Ti 12 0) + 1) 0 (by omega) (by omega)
  · try simp (disch := omega) only [nI_b2, Decidable.not_not, nI_ltI, nI_leI, nI_eq, ge_iff_le, gt_iff_lt, ne_eq, Nat.not_lt, Nat.not_le] at c_4
    refine w_iconst (v := (-1)) dX7_like_7 (by decide) ?_
    refine w_iret dX7_like_8 rfl (Nat.le_of_ble_eq_true rfl) (Nat.le_of_ble_eq_true rfl) ?_
    refine ⟨?_, rfl⟩
    rw [likV, if_pos (by omega)]
def cntV (T : ST) (ln : Int32) (rm : Nat) (w : Int32) : Int32 := if w = nI 0 then nI (T 12 0) else if w = nI 1 then nI (T 12 1) else if w = nI 2 then ln else if w = nI 3 then nI (T 12 3) else if w = nI 4 then nI (thereN T) else if w = nI 5 then nI (T 12 2) else if w = nI 6 then nI (sumN 6 (T 7)) else if w = nI 7 then nI (T 12 4) else if w = nI 8 then nI (sumN (T 12 0) (T 2)) else if w = nI 9 then nI (sumN (T 12 0) (T 3)) else if w = nI 10 then nI (T 12 6) else if w = nI 11 then nI rm else -1
theorem c_count {E : EV} {G : AH} {B tn im nw rm ru sp : Nat} {f : Nat → Nat} {wb sd si : Int32} {T Ti : ST} {D Di : LD} {P : Nat → ST × Int32} {w : Int32} (hH : HI G B tn f wb T sd D im Ti si Di nw rm P ru sp)  : Cu E 3 kX7_count [.ref B, .int w] G (.int (cntV T D.1 rm w)) G := by
  obtain ⟨hB, ⟨htn, him, hnw, hrm⟩, hT, hRd, ⟨hI, hBd⟩, hS, ⟨hL, hD, hSp, hrs⟩, ⟨hIi, hBi, hLi, hDi⟩, ⟨hPa, hPi⟩, ⟨⟨we, hwe⟩, hSm, hSv, ⟨od, hod⟩⟩⟩ := id hH; obtain ⟨⟨_, _, _, _, _, _, gS0⟩, _⟩ := id hS; have hI0 := hI.1; have hIi0 := hIi.1
  obtain ⟨i0, i1, i2, i3, i4, i5, i6, i7, i8, i9, i10, i11, i12, i13⟩ := id hI
  obtain ⟨b0, b1, b2_, b3, b4, b5, b6, b7, b8, b9, b10, b11, b12, b13, b14, b15, b16, b17, b18, b19⟩ := id hBd
  have hls := HI.ls hH
  have hla : ru + 6 ≤ B + 9 ∨ B + 9 + 14 ≤ ru := by omega
  have hlb : ru + 6 ≤ B + 23 ∨ B + 23 + 14 ≤ ru := by omega
  obtain ⟨l0, l1, l2, l3, l4, t0, l5⟩ := id hL
  refine Ct.intro rfl (by decide) [.ref B, .int w] (by simp [Value.category]) (Nat.le_of_ble_eq_true rfl) rfl ?_
  refine w_iload_n dX7_count_0 rfl ?_
  by_cases s_1_0 : w = nI 0
  · refine w_tabIn (tgt := 64) (off := 63) dX7_count_1 (by rw [s_1_0]; decide) (by rw [s_1_0]; decide) (by rw [s_1_0]; rfl) (by decide) ?_
    refine w_aload_n dX7_count_64 rfl ?_
    refine w_getf dX7_count_65 fl_X7_37 (by first | assumption | exact gs_at | (rw [gs_ne (by omega)]; (first | assumption | exact gs_at | (rw [gs_ne (by omega)]; (first | assumption | exact gs_at | (rw [gs_ne (by omega)]; (first | assumption | exact gs_at | (rw [gs_ne (by omega)]; (first | assumption | exact gs_at))))))))) rfl ?_
    refine w_getf dX7_count_68 fl_X7_242 (by first | assumption | exact gs_at | (rw [gs_ne (by omega)]; (first | assumption | exact gs_at | (rw [gs_ne (by omega)]; (first | assumption | exact gs_at | (rw [gs_ne (by omega)]; (first | assumption | exact gs_at | (rw [gs_ne (by omega)]; (first | assumption | exact gs_at))))))))) rfl ?_
    refine w_iret dX7_count_71 rfl (Nat.le_of_ble_eq_true rfl) (Nat.le_of_ble_eq_true rfl) ?_
    refine ⟨?_, rfl⟩
    rw [cntV]
    first
      | rw [if_pos s_1_0]
      | rw [if_neg s_1_0, if_pos s_1_1]
      | rw [if_neg s_1_0, if_neg s_1_1, if_pos s_1_2]
      | rw [if_neg s_1_0, if_neg s_1_1, if_neg s_1_2, if_pos s_1_3]
      | rw [if_neg s_1_0, if_neg s_1_1, if_neg s_1_2, if_neg s_1_3, if_pos s_1_4]
      | rw [if_neg s_1_0, if_neg s_1_1, if_neg s_1_2, if_neg s_1_3, if_neg s_1_4, if_pos s_1_5]
      | rw [if_neg s_1_0, if_neg s_1_1, if_neg s_1_2, if_neg s_1_3, if_neg s_1_4, if_neg s_1_5, if_pos s_1_6]
      | rw [if_neg s_1_0, if_neg s_1_1, if_neg s_1_2, if_neg s_1_3, if_neg s_1_4, if_neg s_1_5, if_neg s_1_6, if_pos s_1_7]
      | rw [if_neg s_1_0, if_neg s_1_1, if_neg s_1_2, if_neg s_1_3, if_neg s_1_4, if_neg s_1_5, if_neg s_1_6, if_neg s_1_7, if_pos s_1_8]
      | rw [if_neg s_1_0, if_neg s_1_1, if_neg s_1_2, if_neg s_1_3, if_neg s_1_4, if_neg s_1_5, if_neg s_1_6, if_neg s_1_7, if_neg s_1_8, if_pos s_1_9]
      | rw [if_neg s_1_0, if_neg s_1_1, if_neg s_1_2, if_neg s_1_3, if_neg s_1_4, if_neg s_1_5, if_neg s_1_6, if_neg s_1_7, if_neg s_1_8, if_neg s_1_9, if_pos s_1_10]
      | rw [if_neg s_1_0, if_neg s_1_1, if_neg s_1_2, if_neg s_1_3, if_neg s_1_4, if_neg s_1_5, if_neg s_1_6, if_neg s_1_7, if_neg s_1_8, if_neg s_1_9, if_neg s_1_10, if_pos s_1_11]
      | rw [if_neg s_1_0, if_neg s_1_1, if_neg s_1_2, if_neg s_1_3, if_neg s_1_4, if_neg s_1_5, if_neg s_1_6, if_neg s_1_7, if_neg s_1_8, if_neg s_1_9, if_neg s_1_10, if_neg s_1_11]
  ·
    by_cases s_1_1 : w = nI 1
    · refine w_tabIn (tgt := 72) (off := 71) dX7_count_1 (by rw [s_1_1]; decide) (by rw [s_1_1]; decide) (by rw [s_1_1]; rfl) (by decide) ?_
      refine w_aload_n dX7_count_72 rfl ?_
      refine w_getf dX7_count_73 fl_X7_37 (by first | assumption | exact gs_at | (rw [gs_ne (by omega)]; (first | assumption | exact gs_at | (rw [gs_ne (by omega)]; (first | assumption | exact gs_at | (rw [gs_ne (by omega)]; (first | assumption | exact gs_at | (rw [gs_ne (by omega)]; (first | assumption | exact gs_at))))))))) rfl ?_
      refine w_getf dX7_count_76 fl_X7_113 (by first | assumption | exact gs_at | (rw [gs_ne (by omega)]; (first | assumption | exact gs_at | (rw [gs_ne (by omega)]; (first | assumption | exact gs_at | (rw [gs_ne (by omega)]; (first | assumption | exact gs_at | (rw [gs_ne (by omega)]; (first | assumption | exact gs_at))))))))) rfl ?_
      refine w_iret dX7_count_79 rfl (Nat.le_of_ble_eq_true rfl) (Nat.le_of_ble_eq_true rfl) ?_
      refine ⟨?_, rfl⟩
      rw [cntV]
      first
        | rw [if_pos s_1_0]
        | rw [if_neg s_1_0, if_pos s_1_1]
        | rw [if_neg s_1_0, if_neg s_1_1, if_pos s_1_2]
        | rw [if_neg s_1_0, if_neg s_1_1, if_neg s_1_2, if_pos s_1_3]
        | rw [if_neg s_1_0, if_neg s_1_1, if_neg s_1_2, if_neg s_1_3, if_pos s_1_4]
        | rw [if_neg s_1_0, if_neg s_1_1, if_neg s_1_2, if_neg s_1_3, if_neg s_1_4, if_pos s_1_5]
        | rw [if_neg s_1_0, if_neg s_1_1, if_neg s_1_2, if_neg s_1_3, if_neg s_1_4, if_neg s_1_5, if_pos s_1_6]
        | rw [if_neg s_1_0, if_neg s_1_1, if_neg s_1_2, if_neg s_1_3, if_neg s_1_4, if_neg s_1_5, if_neg s_1_6, if_pos s_1_7]
        | rw [if_neg s_1_0, if_neg s_1_1, if_neg s_1_2, if_neg s_1_3, if_neg s_1_4, if_neg s_1_5, if_neg s_1_6, if_neg s_1_7, if_pos s_1_8]
        | rw [if_neg s_1_0, if_neg s_1_1, if_neg s_1_2, if_neg s_1_3, if_neg s_1_4, if_neg s_1_5, if_neg s_1_6, if_neg s_1_7, if_neg s_1_8, if_pos s_1_9]
        | rw [if_neg s_1_0, if_neg s_1_1, if_neg s_1_2, if_neg s_1_3, if_neg s_1_4, if_neg s_1_5, if_neg s_1_6, if_neg s_1_7, if_neg s_1_8, if_neg s_1_9, if_pos s_1_10]
        | rw [if_neg s_1_0, if_neg s_1_1, if_neg s_1_2, if_neg s_1_3, if_neg s_1_4, if_neg s_1_5, if_neg s_1_6, if_neg s_1_7, if_neg s_1_8, if_neg s_1_9, if_neg s_1_10, if_pos s_1_11]
        | rw [if_neg s_1_0, if_neg s_1_1, if_neg s_1_2, if_neg s_1_3, if_neg s_1_4, if_neg s_1_5, if_neg s_1_6, if_neg s_1_7, if_neg s_1_8, if_neg s_1_9, if_neg s_1_10, if_neg s_1_11]
    ·
      by_cases s_1_2 : w = nI 2
      · refine w_tabIn (tgt := 80) (off := 79) dX7_count_1 (by rw [s_1_2]; decide) (by rw [s_1_2]; decide) (by rw [s_1_2]; rfl) (by decide) ?_
        refine w_aload_n dX7_count_80 rfl ?_
        refine w_getf dX7_count_81 fl_X7_47 (by first | assumption | exact gs_at | (rw [gs_ne (by omega)]; (first | assumption | exact gs_at | (rw [gs_ne (by omega)]; (first | assumption | exact gs_at | (rw [gs_ne (by omega)]; (first | assumption | exact gs_at | (rw [gs_ne (by omega)]; (first | assumption | exact gs_at))))))))) rfl ?_
        refine w_getf dX7_count_84 fl_X7_124 (by first | assumption | exact gs_at | (rw [gs_ne (by omega)]; (first | assumption | exact gs_at | (rw [gs_ne (by omega)]; (first | assumption | exact gs_at | (rw [gs_ne (by omega)]; (first | assumption | exact gs_at | (rw [gs_ne (by omega)]; (first | assumption | exact gs_at))))))))) rfl ?_
        refine w_iret dX7_count_87 rfl (Nat.le_of_ble_eq_true rfl) (Nat.le_of_ble_eq_true rfl) ?_
        refine ⟨?_, rfl⟩
        rw [cntV]
        first
          | rw [if_pos s_1_0]
          | rw [if_neg s_1_0, if_pos s_1_1]
          | rw [if_neg s_1_0, if_neg s_1_1, if_pos s_1_2]
          | rw [if_neg s_1_0, if_neg s_1_1, if_neg s_1_2, if_pos s_1_3]
          | rw [if_neg s_1_0, if_neg s_1_1, if_neg s_1_2, if_neg s_1_3, if_pos s_1_4]
          | rw [if_neg s_1_0, if_neg s_1_1, if_neg s_1_2, if_neg s_1_3, if_neg s_1_4, if_pos s_1_5]
          | rw [if_neg s_1_0, if_neg s_1_1, if_neg s_1_2, if_neg s_1_3, if_neg s_1_4, if_neg s_1_5, if_pos s_1_6]
          | rw [if_neg s_1_0, if_neg s_1_1, if_neg s_1_2, if_neg s_1_3, if_neg s_1_4, if_neg s_1_5, if_neg s_1_6, if_pos s_1_7]
          | rw [if_neg s_1_0, if_neg s_1_1, if_neg s_1_2, if_neg s_1_3, if_neg s_1_4, if_neg s_1_5, if_neg s_1_6, if_neg s_1_7, if_pos s_1_8]
          | rw [if_neg s_1_0, if_neg s_1_1, if_neg s_1_2, if_neg s_1_3, if_neg s_1_4, if_neg s_1_5, if_neg s_1_6, if_neg s_1_7, if_neg s_1_8, if_pos s_1_9]
          | rw [if_neg s_1_0, if_neg s_1_1, if_neg s_1_2, if_neg s_1_3, if_neg s_1_4, if_neg s_1_5, if_neg s_1_6, if_neg s_1_7, if_neg s_1_8, if_neg s_1_9, if_pos s_1_10]
          | rw [if_neg s_1_0, if_neg s_1_1, if_neg s_1_2, if_neg s_1_3, if_neg s_1_4, if_neg s_1_5, if_neg s_1_6, if_neg s_1_7, if_neg s_1_8, if_neg s_1_9, if_neg s_1_10, if_pos s_1_11]
          | rw [if_neg s_1_0, if_neg s_1_1, if_neg s_1_2, if_neg s_1_3, if_neg s_1_4, if_neg s_1_5, if_neg s_1_6, if_neg s_1_7, if_neg s_1_8, if_neg s_1_9, if_neg s_1_10, if_neg s_1_11]
      ·
        by_cases s_1_3 : w = nI 3
        · refine w_tabIn (tgt := 88) (off := 87) dX7_count_1 (by rw [s_1_3]; decide) (by rw [s_1_3]; decide) (by rw [s_1_3]; rfl) (by decide) ?_
          refine w_aload_n dX7_count_88 rfl ?_
          refine w_getf dX7_count_89 fl_X7_37 (by first | assumption | exact gs_at | (rw [gs_ne (by omega)]; (first | assumption | exact gs_at | (rw [gs_ne (by omega)]; (first | assumption | exact gs_at | (rw [gs_ne (by omega)]; (first | assumption | exact gs_at | (rw [gs_ne (by omega)]; (first | assumption | exact gs_at))))))))) rfl ?_
          refine w_getf dX7_count_92 fl_X7_350 (by first | assumption | exact gs_at | (rw [gs_ne (by omega)]; (first | assumption | exact gs_at | (rw [gs_ne (by omega)]; (first | assumption | exact gs_at | (rw [gs_ne (by omega)]; (first | assumption | exact gs_at | (rw [gs_ne (by omega)]; (first | assumption | exact gs_at))))))))) rfl ?_
          refine w_iret dX7_count_95 rfl (Nat.le_of_ble_eq_true rfl) (Nat.le_of_ble_eq_true rfl) ?_
          refine ⟨?_, rfl⟩
          rw [cntV]
          first
            | rw [if_pos s_1_0]
            | rw [if_neg s_1_0, if_pos s_1_1]
            | rw [if_neg s_1_0, if_neg s_1_1, if_pos s_1_2]
            | rw [if_neg s_1_0, if_neg s_1_1, if_neg s_1_2, if_pos s_1_3]
            | rw [if_neg s_1_0, if_neg s_1_1, if_neg s_1_2, if_neg s_1_3, if_pos s_1_4]
            | rw [if_neg s_1_0, if_neg s_1_1, if_neg s_1_2, if_neg s_1_3, if_neg s_1_4, if_pos s_1_5]
            | rw [if_neg s_1_0, if_neg s_1_1, if_neg s_1_2, if_neg s_1_3, if_neg s_1_4, if_neg s_1_5, if_pos s_1_6]
            | rw [if_neg s_1_0, if_neg s_1_1, if_neg s_1_2, if_neg s_1_3, if_neg s_1_4, if_neg s_1_5, if_neg s_1_6, if_pos s_1_7]
            | rw [if_neg s_1_0, if_neg s_1_1, if_neg s_1_2, if_neg s_1_3, if_neg s_1_4, if_neg s_1_5, if_neg s_1_6, if_neg s_1_7, if_pos s_1_8]
            | rw [if_neg s_1_0, if_neg s_1_1, if_neg s_1_2, if_neg s_1_3, if_neg s_1_4, if_neg s_1_5, if_neg s_1_6, if_neg s_1_7, if_neg s_1_8, if_pos s_1_9]
            | rw [if_neg s_1_0, if_neg s_1_1, if_neg s_1_2, if_neg s_1_3, if_neg s_1_4, if_neg s_1_5, if_neg s_1_6, if_neg s_1_7, if_neg s_1_8, if_neg s_1_9, if_pos s_1_10]
            | rw [if_neg s_1_0, if_neg s_1_1, if_neg s_1_2, if_neg s_1_3, if_neg s_1_4, if_neg s_1_5, if_neg s_1_6, if_neg s_1_7, if_neg s_1_8, if_neg s_1_9, if_neg s_1_10, if_pos s_1_11]
            | rw [if_neg s_1_0, if_neg s_1_1, if_neg s_1_2, if_neg s_1_3, if_neg s_1_4, if_neg s_1_5, if_neg s_1_6, if_neg s_1_7, if_neg s_1_8, if_neg s_1_9, if_neg s_1_10, if_neg s_1_11]
        ·
          by_cases s_1_4 : w = nI 4
          · refine w_tabIn (tgt := 96) (off := 95) dX7_count_1 (by rw [s_1_4]; decide) (by rw [s_1_4]; decide) (by rw [s_1_4]; rfl) (by decide) ?_
            refine w_aload_n dX7_count_96 rfl ?_
            refine w_getf dX7_count_97 fl_X7_37 (by first | assumption | exact gs_at | (rw [gs_ne (by omega)]; (first | assumption | exact gs_at | (rw [gs_ne (by omega)]; (first | assumption | exact gs_at | (rw [gs_ne (by omega)]; (first | assumption | exact gs_at | (rw [gs_ne (by omega)]; (first | assumption | exact gs_at))))))))) rfl ?_
            refine wV0u dX7_count_100 lk_X7_353 rfl (by first | assumption | exact gs_at | (rw [gs_ne (by omega)]; (first | assumption | exact gs_at | (rw [gs_ne (by omega)]; (first | assumption | exact gs_at | (rw [gs_ne (by omega)]; (first | assumption | exact gs_at | (rw [gs_ne (by omega)]; (first | assumption | exact gs_at))))))))) rfl rfl (c_there hI hBd) (Nat.le_of_ble_eq_true rfl) (Nat.le_of_ble_eq_true rfl) (Nat.le_of_ble_eq_true rfl) (Nat.le_of_ble_eq_true rfl) ?_
            refine w_iret dX7_count_103 rfl (Nat.le_of_ble_eq_true rfl) (Nat.le_of_ble_eq_true rfl) ?_
            refine ⟨?_, rfl⟩
            rw [cntV]
            first
              | rw [if_pos s_1_0]
              | rw [if_neg s_1_0, if_pos s_1_1]
              | rw [if_neg s_1_0, if_neg s_1_1, if_pos s_1_2]
              | rw [if_neg s_1_0, if_neg s_1_1, if_neg s_1_2, if_pos s_1_3]
              | rw [if_neg s_1_0, if_neg s_1_1, if_neg s_1_2, if_neg s_1_3, if_pos s_1_4]
              | rw [if_neg s_1_0, if_neg s_1_1, if_neg s_1_2, if_neg s_1_3, if_neg s_1_4, if_pos s_1_5]
              | rw [if_neg s_1_0, if_neg s_1_1, if_neg s_1_2, if_neg s_1_3, if_neg s_1_4, if_neg s_1_5, if_pos s_1_6]
              | rw [if_neg s_1_0, if_neg s_1_1, if_neg s_1_2, if_neg s_1_3, if_neg s_1_4, if_neg s_1_5, if_neg s_1_6, if_pos s_1_7]
              | rw [if_neg s_1_0, if_neg s_1_1, if_neg s_1_2, if_neg s_1_3, if_neg s_1_4, if_neg s_1_5, if_neg s_1_6, if_neg s_1_7, if_pos s_1_8]
              | rw [if_neg s_1_0, if_neg s_1_1, if_neg s_1_2, if_neg s_1_3, if_neg s_1_4, if_neg s_1_5, if_neg s_1_6, if_neg s_1_7, if_neg s_1_8, if_pos s_1_9]
              | rw [if_neg s_1_0, if_neg s_1_1, if_neg s_1_2, if_neg s_1_3, if_neg s_1_4, if_neg s_1_5, if_neg s_1_6, if_neg s_1_7, if_neg s_1_8, if_neg s_1_9, if_pos s_1_10]
              | rw [if_neg s_1_0, if_neg s_1_1, if_neg s_1_2, if_neg s_1_3, if_neg s_1_4, if_neg s_1_5, if_neg s_1_6, if_neg s_1_7, if_neg s_1_8, if_neg s_1_9, if_neg s_1_10, if_pos s_1_11]
              | rw [if_neg s_1_0, if_neg s_1_1, if_neg s_1_2, if_neg s_1_3, if_neg s_1_4, if_neg s_1_5, if_neg s_1_6, if_neg s_1_7, if_neg s_1_8, if_neg s_1_9, if_neg s_1_10, if_neg s_1_11]
          ·
            by_cases s_1_5 : w = nI 5
            · refine w_tabIn (tgt := 104) (off := 103) dX7_count_1 (by rw [s_1_5]; decide) (by rw [s_1_5]; decide) (by rw [s_1_5]; rfl) (by decide) ?_
              refine w_aload_n dX7_count_104 rfl ?_
              refine w_getf dX7_count_105 fl_X7_37 (by first | assumption | exact gs_at | (rw [gs_ne (by omega)]; (first | assumption | exact gs_at | (rw [gs_ne (by omega)]; (first | assumption | exact gs_at | (rw [gs_ne (by omega)]; (first | assumption | exact gs_at | (rw [gs_ne (by omega)]; (first | assumption | exact gs_at))))))))) rfl ?_
              refine w_getf dX7_count_108 fl_X7_271 (by first | assumption | exact gs_at | (rw [gs_ne (by omega)]; (first | assumption | exact gs_at | (rw [gs_ne (by omega)]; (first | assumption | exact gs_at | (rw [gs_ne (by omega)]; (first | assumption | exact gs_at | (rw [gs_ne (by omega)]; (first | assumption | exact gs_at))))))))) rfl ?_
              refine w_iret dX7_count_111 rfl (Nat.le_of_ble_eq_true rfl) (Nat.le_of_ble_eq_true rfl) ?_
              refine ⟨?_, rfl⟩
              rw [cntV]
              first
                | rw [if_pos s_1_0]
                | rw [if_neg s_1_0, if_pos s_1_1]
                | rw [if_neg s_1_0, if_neg s_1_1, if_pos s_1_2]
                | rw [if_neg s_1_0, if_neg s_1_1, if_neg s_1_2, if_pos s_1_3]
                | rw [if_neg s_1_0, if_neg s_1_1, if_neg s_1_2, if_neg s_1_3, if_pos s_1_4]
                | rw [if_neg s_1_0, if_neg s_1_1, if_neg s_1_2, if_neg s_1_3, if_neg s_1_4, if_pos s_1_5]
                | rw [if_neg s_1_0, if_neg s_1_1, if_neg s_1_2, if_neg s_1_3, if_neg s_1_4, if_neg s_1_5, if_pos s_1_6]
                | rw [if_neg s_1_0, if_neg s_1_1, if_neg s_1_2, if_neg s_1_3, if_neg s_1_4, if_neg s_1_5, if_neg s_1_6, if_pos s_1_7]
                | rw [if_neg s_1_0, if_neg s_1_1, if_neg s_1_2, if_neg s_1_3, if_neg s_1_4, if_neg s_1_5, if_neg s_1_6, if_neg s_1_7, if_pos s_1_8]
                | rw [if_neg s_1_0, if_neg s_1_1, if_neg s_1_2, if_neg s_1_3, if_neg s_1_4, if_neg s_1_5, if_neg s_1_6, if_neg s_1_7, if_neg s_1_8, if_pos s_1_9]
                | rw [if_neg s_1_0, if_neg s_1_1, if_neg s_1_2, if_neg s_1_3, if_neg s_1_4, if_neg s_1_5, if_neg s_1_6, if_neg s_1_7, if_neg s_1_8, if_neg s_1_9, if_pos s_1_10]
                | rw [if_neg s_1_0, if_neg s_1_1, if_neg s_1_2, if_neg s_1_3, if_neg s_1_4, if_neg s_1_5, if_neg s_1_6, if_neg s_1_7, if_neg s_1_8, if_neg s_1_9, if_neg s_1_10, if_pos s_1_11]
                | rw [if_neg s_1_0, if_neg s_1_1, if_neg s_1_2, if_neg s_1_3, if_neg s_1_4, if_neg s_1_5, if_neg s_1_6, if_neg s_1_7, if_neg s_1_8, if_neg s_1_9, if_neg s_1_10, if_neg s_1_11]
            ·
              by_cases s_1_6 : w = nI 6
              · refine w_tabIn (tgt := 112) (off := 111) dX7_count_1 (by rw [s_1_6]; decide) (by rw [s_1_6]; decide) (by rw [s_1_6]; rfl) (by decide) ?_
                refine w_aload_n dX7_count_112 rfl ?_
                refine w_getf dX7_count_113 fl_X7_37 (by first | assumption | exact gs_at | (rw [gs_ne (by omega)]; (first | assumption | exact gs_at | (rw [gs_ne (by omega)]; (first | assumption | exact gs_at | (rw [gs_ne (by omega)]; (first | assumption | exact gs_at | (rw [gs_ne (by omega)]; (first | assumption | exact gs_at))))))))) rfl ?_
                refine w_getf dX7_count_116 fl_X7_173 (by first | assumption | exact gs_at | (rw [gs_ne (by omega)]; (first | assumption | exact gs_at | (rw [gs_ne (by omega)]; (first | assumption | exact gs_at | (rw [gs_ne (by omega)]; (first | assumption | exact gs_at | (rw [gs_ne (by omega)]; (first | assumption | exact gs_at))))))))) rfl ?_
                refine w_bipush (v := nI 6) dX7_count_119 (by decide) ?_
                refine wS2u dX7_count_121 lk_X7_304 rfl (c_total (f := T 7) i8 (by decide) (by decide)) (Nat.le_of_ble_eq_true rfl) (Nat.le_of_ble_eq_true rfl) (Nat.le_of_ble_eq_true rfl) (Nat.le_of_ble_eq_true rfl) ?_
                refine w_iret dX7_count_124 rfl (Nat.le_of_ble_eq_true rfl) (Nat.le_of_ble_eq_true rfl) ?_
                refine ⟨?_, rfl⟩
                rw [cntV]
                first
                  | rw [if_pos s_1_0]
                  | rw [if_neg s_1_0, if_pos s_1_1]
                  | rw [if_neg s_1_0, if_neg s_1_1, if_pos s_1_2]
                  | rw [if_neg s_1_0, if_neg s_1_1, if_neg s_1_2, if_pos s_1_3]
                  | rw [if_neg s_1_0, if_neg s_1_1, if_neg s_1_2, if_neg s_1_3, if_pos s_1_4]
                  | rw [if_neg s_1_0, if_neg s_1_1, if_neg s_1_2, if_neg s_1_3, if_neg s_1_4, if_pos s_1_5]
                  | rw [if_neg s_1_0, if_neg s_1_1, if_neg s_1_2, if_neg s_1_3, if_neg s_1_4, if_neg s_1_5, if_pos s_1_6]
                  | rw [if_neg s_1_0, if_neg s_1_1, if_neg s_1_2, if_neg s_1_3, if_neg s_1_4, if_neg s_1_5, if_neg s_1_6, if_pos s_1_7]
                  | rw [if_neg s_1_0, if_neg s_1_1, if_neg s_1_2, if_neg s_1_3, if_neg s_1_4, if_neg s_1_5, if_neg s_1_6, if_neg s_1_7, if_pos s_1_8]
                  | rw [if_neg s_1_0, if_neg s_1_1, if_neg s_1_2, if_neg s_1_3, if_neg s_1_4, if_neg s_1_5, if_neg s_1_6, if_neg s_1_7, if_neg s_1_8, if_pos s_1_9]
                  | rw [if_neg s_1_0, if_neg s_1_1, if_neg s_1_2, if_neg s_1_3, if_neg s_1_4, if_neg s_1_5, if_neg s_1_6, if_neg s_1_7, if_neg s_1_8, if_neg s_1_9, if_pos s_1_10]
                  | rw [if_neg s_1_0, if_neg s_1_1, if_neg s_1_2, if_neg s_1_3, if_neg s_1_4, if_neg s_1_5, if_neg s_1_6, if_neg s_1_7, if_neg s_1_8, if_neg s_1_9, if_neg s_1_10, if_pos s_1_11]
                  | rw [if_neg s_1_0, if_neg s_1_1, if_neg s_1_2, if_neg s_1_3, if_neg s_1_4, if_neg s_1_5, if_neg s_1_6, if_neg s_1_7, if_neg s_1_8, if_neg s_1_9, if_neg s_1_10, if_neg s_1_11]
              ·
                by_cases s_1_7 : w = nI 7
                · refine w_tabIn (tgt := 125) (off := 124) dX7_count_1 (by rw [s_1_7]; decide) (by rw [s_1_7]; decide) (by rw [s_1_7]; rfl) (by decide) ?_
                  refine w_aload_n dX7_count_125 rfl ?_
                  refine w_getf dX7_count_126 fl_X7_37 (by first | assumption | exact gs_at | (rw [gs_ne (by omega)]; (first | assumption | exact gs_at | (rw [gs_ne (by omega)]; (first | assumption | exact gs_at | (rw [gs_ne (by omega)]; (first | assumption | exact gs_at | (rw [gs_ne (by omega)]; (first | assumption | exact gs_at))))))))) rfl ?_
                  refine w_getf dX7_count_129 fl_X7_356 (by first | assumption | exact gs_at | (rw [gs_ne (by omega)]; (first | assumption | exact gs_at | (rw [gs_ne (by omega)]; (first | assumption | exact gs_at | (rw [gs_ne (by omega)]; (first | assumption | exact gs_at | (rw [gs_ne (by omega)]; (first | assumption | exact gs_at))))))))) rfl ?_
                  refine w_iret dX7_count_132 rfl (Nat.le_of_ble_eq_true rfl) (Nat.le_of_ble_eq_true rfl) ?_
                  refine ⟨?_, rfl⟩
                  rw [cntV]
                  first
                    | rw [if_pos s_1_0]
                    | rw [if_neg s_1_0, if_pos s_1_1]
                    | rw [if_neg s_1_0, if_neg s_1_1, if_pos s_1_2]
                    | rw [if_neg s_1_0, if_neg s_1_1, if_neg s_1_2, if_pos s_1_3]
                    | rw [if_neg s_1_0, if_neg s_1_1, if_neg s_1_2, if_neg s_1_3, if_pos s_1_4]
                    | rw [if_neg s_1_0, if_neg s_1_1, if_neg s_1_2, if_neg s_1_3, if_neg s_1_4, if_pos s_1_5]
                    | rw [if_neg s_1_0, if_neg s_1_1, if_neg s_1_2, if_neg s_1_3, if_neg s_1_4, if_neg s_1_5, if_pos s_1_6]
                    | rw [if_neg s_1_0, if_neg s_1_1, if_neg s_1_2, if_neg s_1_3, if_neg s_1_4, if_neg s_1_5, if_neg s_1_6, if_pos s_1_7]
                    | rw [if_neg s_1_0, if_neg s_1_1, if_neg s_1_2, if_neg s_1_3, if_neg s_1_4, if_neg s_1_5, if_neg s_1_6, if_neg s_1_7, if_pos s_1_8]
                    | rw [if_neg s_1_0, if_neg s_1_1, if_neg s_1_2, if_neg s_1_3, if_neg s_1_4, if_neg s_1_5, if_neg s_1_6, if_neg s_1_7, if_neg s_1_8, if_pos s_1_9]
                    | rw [if_neg s_1_0, if_neg s_1_1, if_neg s_1_2, if_neg s_1_3, if_neg s_1_4, if_neg s_1_5, if_neg s_1_6, if_neg s_1_7, if_neg s_1_8, if_neg s_1_9, if_pos s_1_10]
                    | rw [if_neg s_1_0, if_neg s_1_1, if_neg s_1_2, if_neg s_1_3, if_neg s_1_4, if_neg s_1_5, if_neg s_1_6, if_neg s_1_7, if_neg s_1_8, if_neg s_1_9, if_neg s_1_10, if_pos s_1_11]
                    | rw [if_neg s_1_0, if_neg s_1_1, if_neg s_1_2, if_neg s_1_3, if_neg s_1_4, if_neg s_1_5, if_neg s_1_6, if_neg s_1_7, if_neg s_1_8, if_neg s_1_9, if_neg s_1_10, if_neg s_1_11]
                ·
                  by_cases s_1_8 : w = nI 8
                  · refine w_tabIn (tgt := 133) (off := 132) dX7_count_1 (by rw [s_1_8]; decide) (by rw [s_1_8]; decide) (by rw [s_1_8]; rfl) (by decide) ?_
                    refine w_aload_n dX7_count_133 rfl ?_
                    refine w_getf dX7_count_134 fl_X7_37 (by first | assumption | exact gs_at | (rw [gs_ne (by omega)]; (first | assumption | exact gs_at | (rw [gs_ne (by omega)]; (first | assumption | exact gs_at | (rw [gs_ne (by omega)]; (first | assumption | exact gs_at | (rw [gs_ne (by omega)]; (first | assumption | exact gs_at))))))))) rfl ?_
                    refine w_getf dX7_count_137 fl_X7_144 (by first | assumption | exact gs_at | (rw [gs_ne (by omega)]; (first | assumption | exact gs_at | (rw [gs_ne (by omega)]; (first | assumption | exact gs_at | (rw [gs_ne (by omega)]; (first | assumption | exact gs_at | (rw [gs_ne (by omega)]; (first | assumption | exact gs_at))))))))) rfl ?_
                    refine w_aload_n dX7_count_140 rfl ?_
                    refine w_getf dX7_count_141 fl_X7_37 (by first | assumption | exact gs_at | (rw [gs_ne (by omega)]; (first | assumption | exact gs_at | (rw [gs_ne (by omega)]; (first | assumption | exact gs_at | (rw [gs_ne (by omega)]; (first | assumption | exact gs_at | (rw [gs_ne (by omega)]; (first | assumption | exact gs_at))))))))) rfl ?_
                    refine w_getf dX7_count_144 fl_X7_242 (by first | assumption | exact gs_at | (rw [gs_ne (by omega)]; (first | assumption | exact gs_at | (rw [gs_ne (by omega)]; (first | assumption | exact gs_at | (rw [gs_ne (by omega)]; (first | assumption | exact gs_at | (rw [gs_ne (by omega)]; (first | assumption | exact gs_at))))))))) rfl ?_
                    refine wS2u dX7_count_147 lk_X7_304 rfl (c_total (f := T 2) i3 b0 (by decide)) (Nat.le_of_ble_eq_true rfl) (Nat.le_of_ble_eq_true rfl) (Nat.le_of_ble_eq_true rfl) (Nat.le_of_ble_eq_true rfl) ?_
                    refine w_iret dX7_count_150 rfl (Nat.le_of_ble_eq_true rfl) (Nat.le_of_ble_eq_true rfl) ?_
                    refine ⟨?_, rfl⟩
                    rw [cntV]
                    first
                      | rw [if_pos s_1_0]
                      | rw [if_neg s_1_0, if_pos s_1_1]
                      | rw [if_neg s_1_0, if_neg s_1_1, if_pos s_1_2]
                      | rw [if_neg s_1_0, if_neg s_1_1, if_neg s_1_2, if_pos s_1_3]
                      | rw [if_neg s_1_0, if_neg s_1_1, if_neg s_1_2, if_neg s_1_3, if_pos s_1_4]
                      | rw [if_neg s_1_0, if_neg s_1_1, if_neg s_1_2, if_neg s_1_3, if_neg s_1_4, if_pos s_1_5]
                      | rw [if_neg s_1_0, if_neg s_1_1, if_neg s_1_2, if_neg s_1_3, if_neg s_1_4, if_neg s_1_5, if_pos s_1_6]
                      | rw [if_neg s_1_0, if_neg s_1_1, if_neg s_1_2, if_neg s_1_3, if_neg s_1_4, if_neg s_1_5, if_neg s_1_6, if_pos s_1_7]
                      | rw [if_neg s_1_0, if_neg s_1_1, if_neg s_1_2, if_neg s_1_3, if_neg s_1_4, if_neg s_1_5, if_neg s_1_6, if_neg s_1_7, if_pos s_1_8]
                      | rw [if_neg s_1_0, if_neg s_1_1, if_neg s_1_2, if_neg s_1_3, if_neg s_1_4, if_neg s_1_5, if_neg s_1_6, if_neg s_1_7, if_neg s_1_8, if_pos s_1_9]
                      | rw [if_neg s_1_0, if_neg s_1_1, if_neg s_1_2, if_neg s_1_3, if_neg s_1_4, if_neg s_1_5, if_neg s_1_6, if_neg s_1_7, if_neg s_1_8, if_neg s_1_9, if_pos s_1_10]
                      | rw [if_neg s_1_0, if_neg s_1_1, if_neg s_1_2, if_neg s_1_3, if_neg s_1_4, if_neg s_1_5, if_neg s_1_6, if_neg s_1_7, if_neg s_1_8, if_neg s_1_9, if_neg s_1_10, if_pos s_1_11]
                      | rw [if_neg s_1_0, if_neg s_1_1, if_neg s_1_2, if_neg s_1_3, if_neg s_1_4, if_neg s_1_5, if_neg s_1_6, if_neg s_1_7, if_neg s_1_8, if_neg s_1_9, if_neg s_1_10, if_neg s_1_11]
                  ·
                    by_cases s_1_9 : w = nI 9
                    · refine w_tabIn (tgt := 151) (off := 150) dX7_count_1 (by rw [s_1_9]; decide) (by rw [s_1_9]; decide) (by rw [s_1_9]; rfl) (by decide) ?_
                      refine w_aload_n dX7_count_151 rfl ?_
                      refine w_getf dX7_count_152 fl_X7_37 (by first | assumption | exact gs_at | (rw [gs_ne (by omega)]; (first | assumption | exact gs_at | (rw [gs_ne (by omega)]; (first | assumption | exact gs_at | (rw [gs_ne (by omega)]; (first | assumption | exact gs_at | (rw [gs_ne (by omega)]; (first | assumption | exact gs_at))))))))) rfl ?_
                      refine w_getf dX7_count_155 fl_X7_147 (by first | assumption | exact gs_at | (rw [gs_ne (by omega)]; (first | assumption | exact gs_at | (rw [gs_ne (by omega)]; (first | assumption | exact gs_at | (rw [gs_ne (by omega)]; (first | assumption | exact gs_at | (rw [gs_ne (by omega)]; (first | assumption | exact gs_at))))))))) rfl ?_
                      refine w_aload_n dX7_count_158 rfl ?_
                      refine w_getf dX7_count_159 fl_X7_37 (by first | assumption | exact gs_at | (rw [gs_ne (by omega)]; (first | assumption | exact gs_at | (rw [gs_ne (by omega)]; (first | assumption | exact gs_at | (rw [gs_ne (by omega)]; (first | assumption | exact gs_at | (rw [gs_ne (by omega)]; (first | assumption | exact gs_at))))))))) rfl ?_
                      refine w_getf dX7_count_162 fl_X7_242 (by first | assumption | exact gs_at | (rw [gs_ne (by omega)]; (first | assumption | exact gs_at | (rw [gs_ne (by omega)]; (first | assumption | exact gs_at | (rw [gs_ne (by omega)]; (first | assumption | exact gs_at | (rw [gs_ne (by omega)]; (first | assumption | exact gs_at))))))))) rfl ?_
                      refine wS2u dX7_count_165 lk_X7_304 rfl (c_total (f := T 3) i4 b0 (by decide)) (Nat.le_of_ble_eq_true rfl) (Nat.le_of_ble_eq_true rfl) (Nat.le_of_ble_eq_true rfl) (Nat.le_of_ble_eq_true rfl) ?_
                      refine w_iret dX7_count_168 rfl (Nat.le_of_ble_eq_true rfl) (Nat.le_of_ble_eq_true rfl) ?_
                      refine ⟨?_, rfl⟩
                      rw [cntV]
                      first
                        | rw [if_pos s_1_0]
                        | rw [if_neg s_1_0, if_pos s_1_1]
                        | rw [if_neg s_1_0, if_neg s_1_1, if_pos s_1_2]
                        | rw [if_neg s_1_0, if_neg s_1_1, if_neg s_1_2, if_pos s_1_3]
                        | rw [if_neg s_1_0, if_neg s_1_1, if_neg s_1_2, if_neg s_1_3, if_pos s_1_4]
                        | rw [if_neg s_1_0, if_neg s_1_1, if_neg s_1_2, if_neg s_1_3, if_neg s_1_4, if_pos s_1_5]
                        | rw [if_neg s_1_0, if_neg s_1_1, if_neg s_1_2, if_neg s_1_3, if_neg s_1_4, if_neg s_1_5, if_pos s_1_6]
                        | rw [if_neg s_1_0, if_neg s_1_1, if_neg s_1_2, if_neg s_1_3, if_neg s_1_4, if_neg s_1_5, if_neg s_1_6, if_pos s_1_7]
                        | rw [if_neg s_1_0, if_neg s_1_1, if_neg s_1_2, if_neg s_1_3, if_neg s_1_4, if_neg s_1_5, if_neg s_1_6, if_neg s_1_7, if_pos s_1_8]
                        | rw [if_neg s_1_0, if_neg s_1_1, if_neg s_1_2, if_neg s_1_3, if_neg s_1_4, if_neg s_1_5, if_neg s_1_6, if_neg s_1_7, if_neg s_1_8, if_pos s_1_9]
                        | rw [if_neg s_1_0, if_neg s_1_1, if_neg s_1_2, if_neg s_1_3, if_neg s_1_4, if_neg s_1_5, if_neg s_1_6, if_neg s_1_7, if_neg s_1_8, if_neg s_1_9, if_pos s_1_10]
                        | rw [if_neg s_1_0, if_neg s_1_1, if_neg s_1_2, if_neg s_1_3, if_neg s_1_4, if_neg s_1_5, if_neg s_1_6, if_neg s_1_7, if_neg s_1_8, if_neg s_1_9, if_neg s_1_10, if_pos s_1_11]
                        | rw [if_neg s_1_0, if_neg s_1_1, if_neg s_1_2, if_neg s_1_3, if_neg s_1_4, if_neg s_1_5, if_neg s_1_6, if_neg s_1_7, if_neg s_1_8, if_neg s_1_9, if_neg s_1_10, if_neg s_1_11]
                    ·
                      by_cases s_1_10 : w = nI 10
                      · refine w_tabIn (tgt := 169) (off := 168) dX7_count_1 (by rw [s_1_10]; decide) (by rw [s_1_10]; decide) (by rw [s_1_10]; rfl) (by decide) ?_
                        refine w_aload_n dX7_count_169 rfl ?_
                        refine w_getf dX7_count_170 fl_X7_37 (by first | assumption | exact gs_at | (rw [gs_ne (by omega)]; (first | assumption | exact gs_at | (rw [gs_ne (by omega)]; (first | assumption | exact gs_at | (rw [gs_ne (by omega)]; (first | assumption | exact gs_at | (rw [gs_ne (by omega)]; (first | assumption | exact gs_at))))))))) rfl ?_
                        refine w_getf dX7_count_173 fl_X7_335 (by first | assumption | exact gs_at | (rw [gs_ne (by omega)]; (first | assumption | exact gs_at | (rw [gs_ne (by omega)]; (first | assumption | exact gs_at | (rw [gs_ne (by omega)]; (first | assumption | exact gs_at | (rw [gs_ne (by omega)]; (first | assumption | exact gs_at))))))))) rfl ?_
                        refine w_getf dX7_count_176 fl_X7_339 (by first | assumption | exact gs_at | (rw [gs_ne (by omega)]; (first | assumption | exact gs_at | (rw [gs_ne (by omega)]; (first | assumption | exact gs_at | (rw [gs_ne (by omega)]; (first | assumption | exact gs_at | (rw [gs_ne (by omega)]; (first | assumption | exact gs_at))))))))) rfl ?_
                        refine w_iret dX7_count_179 rfl (Nat.le_of_ble_eq_true rfl) (Nat.le_of_ble_eq_true rfl) ?_
                        refine ⟨?_, rfl⟩
                        rw [cntV]
                        first
                          | rw [if_pos s_1_0]
                          | rw [if_neg s_1_0, if_pos s_1_1]
                          | rw [if_neg s_1_0, if_neg s_1_1, if_pos s_1_2]
                          | rw [if_neg s_1_0, if_neg s_1_1, if_neg s_1_2, if_pos s_1_3]
                          | rw [if_neg s_1_0, if_neg s_1_1, if_neg s_1_2, if_neg s_1_3, if_pos s_1_4]
                          | rw [if_neg s_1_0, if_neg s_1_1, if_neg s_1_2, if_neg s_1_3, if_neg s_1_4, if_pos s_1_5]
                          | rw [if_neg s_1_0, if_neg s_1_1, if_neg s_1_2, if_neg s_1_3, if_neg s_1_4, if_neg s_1_5, if_pos s_1_6]
                          | rw [if_neg s_1_0, if_neg s_1_1, if_neg s_1_2, if_neg s_1_3, if_neg s_1_4, if_neg s_1_5, if_neg s_1_6, if_pos s_1_7]
                          | rw [if_neg s_1_0, if_neg s_1_1, if_neg s_1_2, if_neg s_1_3, if_neg s_1_4, if_neg s_1_5, if_neg s_1_6, if_neg s_1_7, if_pos s_1_8]
                          | rw [if_neg s_1_0, if_neg s_1_1, if_neg s_1_2, if_neg s_1_3, if_neg s_1_4, if_neg s_1_5, if_neg s_1_6, if_neg s_1_7, if_neg s_1_8, if_pos s_1_9]
                          | rw [if_neg s_1_0, if_neg s_1_1, if_neg s_1_2, if_neg s_1_3, if_neg s_1_4, if_neg s_1_5, if_neg s_1_6, if_neg s_1_7, if_neg s_1_8, if_neg s_1_9, if_pos s_1_10]
                          | rw [if_neg s_1_0, if_neg s_1_1, if_neg s_1_2, if_neg s_1_3, if_neg s_1_4, if_neg s_1_5, if_neg s_1_6, if_neg s_1_7, if_neg s_1_8, if_neg s_1_9, if_neg s_1_10, if_pos s_1_11]
                          | rw [if_neg s_1_0, if_neg s_1_1, if_neg s_1_2, if_neg s_1_3, if_neg s_1_4, if_neg s_1_5, if_neg s_1_6, if_neg s_1_7, if_neg s_1_8, if_neg s_1_9, if_neg s_1_10, if_neg s_1_11]
                      ·
                        by_cases s_1_11 : w = nI 11
                        · refine w_tabIn (tgt := 180) (off := 179) dX7_count_1 (by rw [s_1_11]; decide) (by rw [s_1_11]; decide) (by rw [s_1_11]; rfl) (by decide) ?_
                          refine w_aload_n dX7_count_180 rfl ?_
                          refine w_getf dX7_count_181 fl_X7_71 (by first | assumption | exact gs_at | (rw [gs_ne (by omega)]; (first | assumption | exact gs_at | (rw [gs_ne (by omega)]; (first | assumption | exact gs_at | (rw [gs_ne (by omega)]; (first | assumption | exact gs_at | (rw [gs_ne (by omega)]; (first | assumption | exact gs_at))))))))) rfl ?_
                          refine w_iret dX7_count_184 rfl (Nat.le_of_ble_eq_true rfl) (Nat.le_of_ble_eq_true rfl) ?_
                          refine ⟨?_, rfl⟩
                          rw [cntV]
                          first
                            | rw [if_pos s_1_0]
                            | rw [if_neg s_1_0, if_pos s_1_1]
                            | rw [if_neg s_1_0, if_neg s_1_1, if_pos s_1_2]
                            | rw [if_neg s_1_0, if_neg s_1_1, if_neg s_1_2, if_pos s_1_3]
                            | rw [if_neg s_1_0, if_neg s_1_1, if_neg s_1_2, if_neg s_1_3, if_pos s_1_4]
                            | rw [if_neg s_1_0, if_neg s_1_1, if_neg s_1_2, if_neg s_1_3, if_neg s_1_4, if_pos s_1_5]
                            | rw [if_neg s_1_0, if_neg s_1_1, if_neg s_1_2, if_neg s_1_3, if_neg s_1_4, if_neg s_1_5, if_pos s_1_6]
                            | rw [if_neg s_1_0, if_neg s_1_1, if_neg s_1_2, if_neg s_1_3, if_neg s_1_4, if_neg s_1_5, if_neg s_1_6, if_pos s_1_7]
                            | rw [if_neg s_1_0, if_neg s_1_1, if_neg s_1_2, if_neg s_1_3, if_neg s_1_4, if_neg s_1_5, if_neg s_1_6, if_neg s_1_7, if_pos s_1_8]
                            | rw [if_neg s_1_0, if_neg s_1_1, if_neg s_1_2, if_neg s_1_3, if_neg s_1_4, if_neg s_1_5, if_neg s_1_6, if_neg s_1_7, if_neg s_1_8, if_pos s_1_9]
                            | rw [if_neg s_1_0, if_neg s_1_1, if_neg s_1_2, if_neg s_1_3, if_neg s_1_4, if_neg s_1_5, if_neg s_1_6, if_neg s_1_7, if_neg s_1_8, if_neg s_1_9, if_pos s_1_10]
                            | rw [if_neg s_1_0, if_neg s_1_1, if_neg s_1_2, if_neg s_1_3, if_neg s_1_4, if_neg s_1_5, if_neg s_1_6, if_neg s_1_7, if_neg s_1_8, if_neg s_1_9, if_neg s_1_10, if_pos s_1_11]
                            | rw [if_neg s_1_0, if_neg s_1_1, if_neg s_1_2, if_neg s_1_3, if_neg s_1_4, if_neg s_1_5, if_neg s_1_6, if_neg s_1_7, if_neg s_1_8, if_neg s_1_9, if_neg s_1_10, if_neg s_1_11]
                        ·
                          refine w_tabOut (tgt := 185) dX7_count_1 (by have : ¬ Int32.toInt (w) = 0 := lv_neT s_1_0 rfl; have : ¬ Int32.toInt (w) = 1 := lv_neT s_1_1 rfl; have : ¬ Int32.toInt (w) = 2 := lv_neT s_1_2 rfl; have : ¬ Int32.toInt (w) = 3 := lv_neT s_1_3 rfl; have : ¬ Int32.toInt (w) = 4 := lv_neT s_1_4 rfl; have : ¬ Int32.toInt (w) = 5 := lv_neT s_1_5 rfl; have : ¬ Int32.toInt (w) = 6 := lv_neT s_1_6 rfl; have : ¬ Int32.toInt (w) = 7 := lv_neT s_1_7 rfl; have : ¬ Int32.toInt (w) = 8 := lv_neT s_1_8 rfl; have : ¬ Int32.toInt (w) = 9 := lv_neT s_1_9 rfl; have : ¬ Int32.toInt (w) = 10 := lv_neT s_1_10 rfl; have : ¬ Int32.toInt (w) = 11 := lv_neT s_1_11 rfl; omega) (by decide) ?_
                          refine w_iconst (v := (-1)) dX7_count_185 (by decide) ?_
                          refine w_iret dX7_count_186 rfl (Nat.le_of_ble_eq_true rfl) (Nat.le_of_ble_eq_true rfl) ?_
                          refine ⟨?_, rfl⟩
                          rw [cntV]
                          first
                            | rw [if_pos s_1_0]
                            | rw [if_neg s_1_0, if_pos s_1_1]
                            | rw [if_neg s_1_0, if_neg s_1_1, if_pos s_1_2]
                            | rw [if_neg s_1_0, if_neg s_1_1, if_neg s_1_2, if_pos s_1_3]
                            | rw [if_neg s_1_0, if_neg s_1_1, if_neg s_1_2, if_neg s_1_3, if_pos s_1_4]
                            | rw [if_neg s_1_0, if_neg s_1_1, if_neg s_1_2, if_neg s_1_3, if_neg s_1_4, if_pos s_1_5]
                            | rw [if_neg s_1_0, if_neg s_1_1, if_neg s_1_2, if_neg s_1_3, if_neg s_1_4, if_neg s_1_5, if_pos s_1_6]
                            | rw [if_neg s_1_0, if_neg s_1_1, if_neg s_1_2, if_neg s_1_3, if_neg s_1_4, if_neg s_1_5, if_neg s_1_6, if_pos s_1_7]
                            | rw [if_neg s_1_0, if_neg s_1_1, if_neg s_1_2, if_neg s_1_3, if_neg s_1_4, if_neg s_1_5, if_neg s_1_6, if_neg s_1_7, if_pos s_1_8]
                            | rw [if_neg s_1_0, if_neg s_1_1, if_neg s_1_2, if_neg s_1_3, if_neg s_1_4, if_neg s_1_5, if_neg s_1_6, if_neg s_1_7, if_neg s_1_8, if_pos s_1_9]
                            | rw [if_neg s_1_0, if_neg s_1_1, if_neg s_1_2, if_neg s_1_3, if_neg s_1_4, if_neg s_1_5, if_neg s_1_6, if_neg s_1_7, if_neg s_1_8, if_neg s_1_9, if_pos s_1_10]
                            | rw [if_neg s_1_0, if_neg s_1_1, if_neg s_1_2, if_neg s_1_3, if_neg s_1_4, if_neg s_1_5, if_neg s_1_6, if_neg s_1_7, if_neg s_1_8, if_neg s_1_9, if_neg s_1_10, if_pos s_1_11]
                            | rw [if_neg s_1_0, if_neg s_1_1, if_neg s_1_2, if_neg s_1_3, if_neg s_1_4, if_neg s_1_5, if_neg s_1_6, if_neg s_1_7, if_neg s_1_8, if_neg s_1_9, if_neg s_1_10, if_neg s_1_11]
abbrev fsP (D : LD) (T : ST) (sd : Int32) (n : Nat) : Prop := bitN (mis (adv D 0 T sd n).1) (T 12 0) ≠ 0
def fsW (D : LD) (T : ST) (sd : Int32) (it n : Nat) : Int32 := if it = 0 then nI n else lowV (bitN (mis (adv D 0 T sd n).1) (T 12 0))
def fstV (D : LD) (T : ST) (sd : Int32) (it : Nat) : Int32 := seekV (fsP D T sd) (fsW D T sd it) 401 0
abbrev rnP (D : LD) (T : ST) (sd : Int32) (n : Nat) : Prop := smN (adv D 0 T sd n).1 T (T 12 0) = 1
def rndV (D : LD) (T : ST) (sd : Int32) : Int32 := seekV (rnP D T sd) nI 60 1
abbrev mtP (D : LD) (T : ST) (sd : Int32) (a b n : Nat) : Prop := (adv D 0 T sd n).1 1 a = (adv D 0 T sd n).1 1 b
def mtV (D : LD) (T : ST) (sd : Int32) (a b : Nat) : Int32 := seekV (mtP D T sd a b) nI 401 0
abbrev syP (D : LD) (T : ST) (sd : Int32) (a n : Nat) : Prop := ¬ (adv D 0 T sd n).1 1 a = T 1 a
def syV (D : LD) (T : ST) (sd : Int32) (a : Nat) : Int32 := seekV (syP D T sd a) nI 400 1
theorem lp_first {E : EV} {Q : OC → AH → Prop} {G0 : AH} {B tn im nw rm ru sp : Nat} {f : Nat → Nat} {wb sd si : Int32} {T Ti : ST} {D Di : LD} {P : Nat → ST × Int32} {it : Nat} (hit : it ≤ 1) (hQ : ∀ G1, HI G1 B tn f wb T sd D im Ti si Di nw rm P ru sp → FH G0 G1 B → Q (.inl (some (.int (fstV D T sd it)))) G1) : ∀ (k i : Nat) (G : AH), 401 - i < k → i ≤ 401 → HSc G0 G B tn f wb T sd D im Ti si Di nw rm P ru sp ((adv D 0 T sd i).1) ((adv D 0 T sd i).2) → ∀ z : Value, seekV (fsP D T sd) (fsW D T sd it) (401 - i) i = fstV D T sd it → Wp E 7 0 0 kX7_first Q G (0, 0) 13 [.ref B, .int (nI it), .int (nI i), z] [] := by
  intro k
  induction k with
  | zero => intro i G h; exact absurd h (by omega)
  | succ k ih =>
    intro i G hk hi hS9
    obtain ⟨hH, hJ, hBJ, hFH⟩ := id hS9; have hJ0 := hJ.1
    obtain ⟨hB, ⟨htn, him, hnw, hrm⟩, hT, hRd, ⟨hI, hBd⟩, hS, ⟨hL, hD, hSp, hrs⟩, ⟨hIi, hBi, hLi, hDi⟩, ⟨hPa, hPi⟩, ⟨⟨we, hwe⟩, hSm, hSv, ⟨od, hod⟩⟩⟩ := id hH; obtain ⟨⟨_, _, _, _, _, _, gS0⟩, _⟩ := id hS; have hI0 := hI.1; have hIi0 := hIi.1
    have hls := HI.ls hH
    have hlb : ru + 6 ≤ B + 23 ∨ B + 23 + 14 ≤ ru := by omega
    intro z hv
    have h12 := adv_0 D 0 T sd i
    have hlt9 := bitN_12 (mis (adv D 0 T sd i).1) (show T 12 0 ≤ 12 from hBd.1)
    refine w_iload_n dX7_first_13 rfl ?_
    refine w_sipush (v := nI 400) dX7_first_14 (by decide) ?_
    refine w_icmp_gt (tgt := 64) dX7_first_17 (by decide) (fun c_17 => ?_) (fun c_17 => ?_)
    · try simp (disch := omega) only [nI_b2, Decidable.not_not, nI_ltI, nI_leI, nI_eq, ge_iff_le, gt_iff_lt, ne_eq, Nat.not_lt, Nat.not_le] at c_17
      have e : i = 401 := by omega
      subst e
      refine w_iconst (v := (-1)) dX7_first_64 (by decide) ?_
      refine w_iret dX7_first_65 rfl (Nat.le_of_ble_eq_true rfl) (Nat.le_of_ble_eq_true rfl) ?_
      have h9 := hQ G hH hFH
      rw [← hv] at h9
      first
        | exact h9
        | (rw [fsW, if_pos (by omega)] at h9; exact h9)
        | (rw [fsW, if_neg (by omega)] at h9; exact h9)
    · try simp (disch := omega) only [nI_b2, Decidable.not_not, nI_ltI, nI_leI, nI_eq, ge_iff_le, gt_iff_lt, ne_eq, Nat.not_lt, Nat.not_le] at c_17
      rw [show 401 - i = (401 - (i + 1)) + 1 by omega, seekV] at hv
      refine w_aload_n dX7_first_20 rfl ?_
      refine w_getf dX7_first_21 fl_X7_41 (by first | assumption | exact gs_at | (rw [gs_ne (by omega)]; (first | assumption | exact gs_at | (rw [gs_ne (by omega)]; (first | assumption | exact gs_at | (rw [gs_ne (by omega)]; (first | assumption | exact gs_at | (rw [gs_ne (by omega)]; (first | assumption | exact gs_at))))))))) rfl ?_
      refine wV0u dX7_first_24 lk_X7_224 rfl (by first | assumption | exact gs_at | (rw [gs_ne (by omega)]; (first | assumption | exact gs_at | (rw [gs_ne (by omega)]; (first | assumption | exact gs_at | (rw [gs_ne (by omega)]; (first | assumption | exact gs_at | (rw [gs_ne (by omega)]; (first | assumption | exact gs_at))))))))) rfl rfl (c_missingOnes hJ hBJ) (Nat.le_of_ble_eq_true rfl) (Nat.le_of_ble_eq_true rfl) (Nat.le_of_ble_eq_true rfl) (Nat.le_of_ble_eq_true rfl) ?_
      rw [h12]
      refine w_istore_3 dX7_first_27 rfl ?_
      refine w_iload_n dX7_first_28 rfl ?_
      refine w_ifN_eq (tgt := 45) dX7_first_29 (by decide) (fun c_29 => ?_) (fun c_29 => ?_)
      · try simp (disch := omega) only [nI_b2, Decidable.not_not, nI_ltI, nI_leI, nI_eq, ge_iff_le, gt_iff_lt, ne_eq, Nat.not_lt, Nat.not_le] at c_29
        rw [if_neg (show ¬ fsP D T sd i from fun h => h c_29)] at hv
        refine w_aload_n dX7_first_45 rfl ?_
        refine w_getf dX7_first_46 fl_X7_41 (by first | assumption | exact gs_at | (rw [gs_ne (by omega)]; (first | assumption | exact gs_at | (rw [gs_ne (by omega)]; (first | assumption | exact gs_at | (rw [gs_ne (by omega)]; (first | assumption | exact gs_at | (rw [gs_ne (by omega)]; (first | assumption | exact gs_at))))))))) rfl ?_
        refine w_aload_n dX7_first_49 rfl ?_
        refine w_getf dX7_first_50 fl_X7_47 (by first | assumption | exact gs_at | (rw [gs_ne (by omega)]; (first | assumption | exact gs_at | (rw [gs_ne (by omega)]; (first | assumption | exact gs_at | (rw [gs_ne (by omega)]; (first | assumption | exact gs_at | (rw [gs_ne (by omega)]; (first | assumption | exact gs_at))))))))) rfl ?_
        refine w_iconst (v := nI 0) dX7_first_53 (by decide) ?_
        refine wV2i dX7_first_54 lk_X7_235 rfl (by first | assumption | exact gs_at | (rw [gs_ne (by omega)]; (first | assumption | exact gs_at | (rw [gs_ne (by omega)]; (first | assumption | exact gs_at | (rw [gs_ne (by omega)]; (first | assumption | exact gs_at | (rw [gs_ne (by omega)]; (first | assumption | exact gs_at))))))))) rfl rfl (c_passDay hL hD hJ hBJ (by decide) hlb) (Nat.le_of_ble_eq_true rfl) (Nat.le_of_ble_eq_true rfl) (Nat.le_of_ble_eq_true rfl) (Nat.le_of_ble_eq_true rfl) (fun r_54 G h_54 => ?_)
        obtain ⟨hr9, hJ1, hL1, hF1⟩ := h_54
        have hS9 := hS9.day hJ1 hL1 hF1
        refine w_pop dX7_first_57 rfl ?_
        first | refine w_iinc_2 dX7_first_58 (nI_inc _) rfl ?_ | refine w_iinc_2 dX7_first_58 rfl rfl ?_
        refine w_goto (tgt := 13) dX7_first_61 (by decide) ?_
        exact ih (i + 1) G (by omega) (by omega) hS9 _ hv
      · try simp (disch := omega) only [nI_b2, Decidable.not_not, nI_ltI, nI_leI, nI_eq, ge_iff_le, gt_iff_lt, ne_eq, Nat.not_lt, Nat.not_le] at c_29
        rw [if_pos (show fsP D T sd i from c_29)] at hv
        refine w_iload_n dX7_first_32 rfl ?_
        refine w_ifN_eq (tgt := 43) dX7_first_33 (by decide) (fun c_33 => ?_) (fun c_33 => ?_)
        · try simp (disch := omega) only [nI_b2, Decidable.not_not, nI_ltI, nI_leI, nI_eq, ge_iff_le, gt_iff_lt, ne_eq, Nat.not_lt, Nat.not_le] at c_33
          refine w_iload_n dX7_first_43 rfl ?_
          refine w_iret dX7_first_44 rfl (Nat.le_of_ble_eq_true rfl) (Nat.le_of_ble_eq_true rfl) ?_
          have h9 := hQ G hH hFH
          rw [← hv] at h9
          first
            | exact h9
            | (rw [fsW, if_pos (by omega)] at h9; exact h9)
            | (rw [fsW, if_neg (by omega)] at h9; exact h9)
        · try simp (disch := omega) only [nI_b2, Decidable.not_not, nI_ltI, nI_leI, nI_eq, ge_iff_le, gt_iff_lt, ne_eq, Nat.not_lt, Nat.not_le] at c_33
          refine w_iload_n dX7_first_36 rfl ?_
          refine wS1u dX7_first_37 lk_X7_248 rfl (c_lowest (by omega)) (Nat.le_of_ble_eq_true rfl) (Nat.le_of_ble_eq_true rfl) (Nat.le_of_ble_eq_true rfl) (Nat.le_of_ble_eq_true rfl) ?_
          refine w_goto (tgt := 44) dX7_first_40 (by decide) ?_
          refine w_iret dX7_first_44 rfl (Nat.le_of_ble_eq_true rfl) (Nat.le_of_ble_eq_true rfl) ?_
          have h9 := hQ G hH hFH
          rw [← hv] at h9
          first
            | exact h9
            | (rw [fsW, if_pos (by omega)] at h9; exact h9)
            | (rw [fsW, if_neg (by omega)] at h9; exact h9)
theorem c_first {E : EV} {G : AH} {B tn im nw rm ru sp : Nat} {f : Nat → Nat} {wb sd si : Int32} {T Ti : ST} {D Di : LD} {P : Nat → ST × Int32} {it : Nat} (hH : HI G B tn f wb T sd D im Ti si Di nw rm P ru sp) (hit : it ≤ 1) : Ci E 7 kX7_first [.ref B, .int (nI it)] G (fun r G1 => r = fstV D T sd it ∧ HI G1 B tn f wb T sd D im Ti si Di nw rm P ru sp ∧ FH G G1 B) := by
  obtain ⟨hB, ⟨htn, him, hnw, hrm⟩, hT, hRd, ⟨hI, hBd⟩, hS, ⟨hL, hD, hSp, hrs⟩, ⟨hIi, hBi, hLi, hDi⟩, ⟨hPa, hPi⟩, ⟨⟨we, hwe⟩, hSm, hSv, ⟨od, hod⟩⟩⟩ := id hH; obtain ⟨⟨_, _, _, _, _, _, gS0⟩, _⟩ := id hS; have hI0 := hI.1; have hIi0 := hIi.1
  obtain ⟨i0, i1, i2, i3, i4, i5, i6, i7, i8, i9, i10, i11, i12, i13⟩ := id hI
  obtain ⟨b0, b1, b2_, b3, b4, b5, b6, b7, b8, b9, b10, b11, b12, b13, b14, b15, b16, b17, b18, b19⟩ := id hBd
  have hls := HI.ls hH
  have hla : ru + 6 ≤ B + 9 ∨ B + 9 + 14 ≤ ru := by omega
  have hlb : ru + 6 ≤ B + 23 ∨ B + 23 + 14 ≤ ru := by omega
  refine Ct.intro rfl (by decide) [.ref B, .int (nI it), .float 0, .float 0] (by simp [Value.category]) (Nat.le_of_ble_eq_true rfl) rfl ?_
  refine w_aload_n dX7_first_0 rfl ?_
  refine w_getf dX7_first_1 fl_X7_41 (by first | assumption | exact gs_at | (rw [gs_ne (by omega)]; (first | assumption | exact gs_at | (rw [gs_ne (by omega)]; (first | assumption | exact gs_at | (rw [gs_ne (by omega)]; (first | assumption | exact gs_at | (rw [gs_ne (by omega)]; (first | assumption | exact gs_at))))))))) rfl ?_
  refine w_aload_n dX7_first_4 rfl ?_
  refine w_getf dX7_first_5 fl_X7_37 (by first | assumption | exact gs_at | (rw [gs_ne (by omega)]; (first | assumption | exact gs_at | (rw [gs_ne (by omega)]; (first | assumption | exact gs_at | (rw [gs_ne (by omega)]; (first | assumption | exact gs_at | (rw [gs_ne (by omega)]; (first | assumption | exact gs_at))))))))) rfl ?_
  refine wV1d dX7_first_8 lk_X7_94 rfl (by first | assumption | exact gs_at | (rw [gs_ne (by omega)]; (first | assumption | exact gs_at | (rw [gs_ne (by omega)]; (first | assumption | exact gs_at | (rw [gs_ne (by omega)]; (first | assumption | exact gs_at | (rw [gs_ne (by omega)]; (first | assumption | exact gs_at))))))))) rfl rfl (c_copyIsl hS hI (by omega)) (Nat.le_of_ble_eq_true rfl) (Nat.le_of_ble_eq_true rfl) (Nat.le_of_ble_eq_true rfl) (Nat.le_of_ble_eq_true rfl) (fun G1 h_8 => ?_)
  obtain ⟨hJ1, hF1⟩ := h_8
  have hS9 := HSc.copy hH hJ1 hF1
  refine w_iconst (v := nI 0) dX7_first_11 (by decide) ?_
  refine w_istore_2 dX7_first_12 rfl ?_
  exact lp_first hit (fun G2 h h2 => ⟨_, rfl, rfl, h, h2⟩) 402 0 G1 (by omega) (by omega) hS9 _ rfl
theorem lp_round {E : EV} {Q : OC → AH → Prop} {G0 : AH} {B tn im nw rm ru sp : Nat} {f : Nat → Nat} {wb sd si : Int32} {T Ti : ST} {D Di : LD} {P : Nat → ST × Int32}  (hQ : ∀ G1, HI G1 B tn f wb T sd D im Ti si Di nw rm P ru sp → FH G0 G1 B → Q (.inl (some (.int (rndV D T sd)))) G1) : ∀ (k i : Nat) (G : AH), 61 - i < k → i ≤ 61 → HSc G0 G B tn f wb T sd D im Ti si Di nw rm P ru sp ((adv D 0 T sd (i - 1)).1) ((adv D 0 T sd (i - 1)).2) → 1 ≤ i → seekV (rnP D T sd) nI (61 - i) i = rndV D T sd → Wp E 7 0 0 kX7_round Q G (0, 0) 13 [.ref B, .int (nI i)] [] := by
  intro k
  induction k with
  | zero => intro i G h; exact absurd h (by omega)
  | succ k ih =>
    intro i G hk hi hS9
    obtain ⟨hH, hJ, hBJ, hFH⟩ := id hS9; have hJ0 := hJ.1
    obtain ⟨hB, ⟨htn, him, hnw, hrm⟩, hT, hRd, ⟨hI, hBd⟩, hS, ⟨hL, hD, hSp, hrs⟩, ⟨hIi, hBi, hLi, hDi⟩, ⟨hPa, hPi⟩, ⟨⟨we, hwe⟩, hSm, hSv, ⟨od, hod⟩⟩⟩ := id hH; obtain ⟨⟨_, _, _, _, _, _, gS0⟩, _⟩ := id hS; have hI0 := hI.1; have hIi0 := hIi.1
    have hls := HI.ls hH
    have hlb : ru + 6 ≤ B + 23 ∨ B + 23 + 14 ≤ ru := by omega
    intro hi1 hv
    refine w_iload_n dX7_round_13 rfl ?_
    refine w_bipush (v := nI 60) dX7_round_14 (by decide) ?_
    refine w_icmp_gt (tgt := 47) dX7_round_16 (by decide) (fun c_16 => ?_) (fun c_16 => ?_)
    · try simp (disch := omega) only [nI_ltI, nI_leI, ge_iff_le, gt_iff_lt, Nat.not_lt, Nat.not_le] at c_16
      have e : i = 61 := by omega
      subst e
      refine w_iconst (v := (-1)) dX7_round_47 (by decide) ?_
      refine w_iret dX7_round_48 rfl (Nat.le_of_ble_eq_true rfl) (Nat.le_of_ble_eq_true rfl) ?_
      have h9 := hQ G hH hFH
      rw [← hv] at h9
      exact h9
    · try simp (disch := omega) only [nI_ltI, nI_leI, ge_iff_le, gt_iff_lt, Nat.not_lt, Nat.not_le] at c_16
      rw [show 61 - i = (61 - (i + 1)) + 1 by omega, seekV] at hv
      have e1 : adv D 0 T sd i = (dayT D 0 (adv D 0 T sd (i - 1)).1 (adv D 0 T sd (i - 1)).2, dayS D 0 (adv D 0 T sd (i - 1)).1 (adv D 0 T sd (i - 1)).2) := by rw [show i = (i - 1) + 1 by omega]; rfl
      refine w_aload_n dX7_round_19 rfl ?_
      refine w_getf dX7_round_20 fl_X7_41 (by first | assumption | exact gs_at | (rw [gs_ne (by omega)]; (first | assumption | exact gs_at | (rw [gs_ne (by omega)]; (first | assumption | exact gs_at | (rw [gs_ne (by omega)]; (first | assumption | exact gs_at | (rw [gs_ne (by omega)]; (first | assumption | exact gs_at))))))))) rfl ?_
      refine w_aload_n dX7_round_23 rfl ?_
      refine w_getf dX7_round_24 fl_X7_47 (by first | assumption | exact gs_at | (rw [gs_ne (by omega)]; (first | assumption | exact gs_at | (rw [gs_ne (by omega)]; (first | assumption | exact gs_at | (rw [gs_ne (by omega)]; (first | assumption | exact gs_at | (rw [gs_ne (by omega)]; (first | assumption | exact gs_at))))))))) rfl ?_
      refine w_iconst (v := nI 0) dX7_round_27 (by decide) ?_
      refine wV2i dX7_round_28 lk_X7_235 rfl (by first | assumption | exact gs_at | (rw [gs_ne (by omega)]; (first | assumption | exact gs_at | (rw [gs_ne (by omega)]; (first | assumption | exact gs_at | (rw [gs_ne (by omega)]; (first | assumption | exact gs_at | (rw [gs_ne (by omega)]; (first | assumption | exact gs_at))))))))) rfl rfl (c_passDay hL hD hJ hBJ (by decide) hlb) (Nat.le_of_ble_eq_true rfl) (Nat.le_of_ble_eq_true rfl) (Nat.le_of_ble_eq_true rfl) (Nat.le_of_ble_eq_true rfl) (fun r_28 G h_28 => ?_)
      obtain ⟨hr9, hJ1, hL1, hF1⟩ := h_28
      have hS9 := hS9.day hJ1 hL1 hF1
      obtain ⟨hH, hJ, hBJ, hFH⟩ := id hS9; have hJ0 := hJ.1
      obtain ⟨hB, ⟨htn, him, hnw, hrm⟩, hT, hRd, ⟨hI, hBd⟩, hS, ⟨hL, hD, hSp, hrs⟩, ⟨hIi, hBi, hLi, hDi⟩, ⟨hPa, hPi⟩, ⟨⟨we, hwe⟩, hSm, hSv, ⟨od, hod⟩⟩⟩ := id hH; obtain ⟨⟨_, _, _, _, _, _, gS0⟩, _⟩ := id hS; have hI0 := hI.1; have hIi0 := hIi.1
      refine w_pop dX7_round_31 rfl ?_
      have e2 : dayT D 0 (adv D 0 T sd (i - 1)).1 (adv D 0 T sd (i - 1)).2 = (adv D 0 T sd i).1 := by rw [e1]
      have e3 : dayS D 0 (adv D 0 T sd (i - 1)).1 (adv D 0 T sd (i - 1)).2 = (adv D 0 T sd i).2 := by rw [e1]
      rw [e2, e3] at hS9
      obtain ⟨hH, hJ, hBJ, hFH⟩ := id hS9
      have h01 := smN_01 (adv D 0 T sd i).1 T (T 12 0)
      refine w_aload_n dX7_round_32 rfl ?_
      refine wV0u dX7_round_33 lk_X7_251 rfl (by first | assumption | exact gs_at | (rw [gs_ne (by omega)]; (first | assumption | exact gs_at | (rw [gs_ne (by omega)]; (first | assumption | exact gs_at | (rw [gs_ne (by omega)]; (first | assumption | exact gs_at | (rw [gs_ne (by omega)]; (first | assumption | exact gs_at))))))))) rfl rfl (c_sameRooms hH hJ hBJ) (Nat.le_of_ble_eq_true rfl) (Nat.le_of_ble_eq_true rfl) (Nat.le_of_ble_eq_true rfl) (Nat.le_of_ble_eq_true rfl) ?_
      refine w_ifN_eq (tgt := 41) dX7_round_36 (by decide) (fun c_36 => ?_) (fun c_36 => ?_)
      · try simp (disch := omega) only [nI_ltI, nI_leI, ge_iff_le, gt_iff_lt, Nat.not_lt, Nat.not_le] at c_36
        rw [if_neg (show ¬ rnP D T sd i from fun h => by rw [h] at c_36; exact absurd c_36 (by decide))] at hv
        first | refine w_iinc_1 dX7_round_41 (nI_inc _) rfl ?_ | refine w_iinc_1 dX7_round_41 rfl rfl ?_
        refine w_goto (tgt := 13) dX7_round_44 (by decide) ?_
        exact ih (i + 1) G (by omega) (by omega) (by rw [Nat.add_sub_cancel]; exact hS9) (by omega) hv
      · try simp (disch := omega) only [nI_ltI, nI_leI, ge_iff_le, gt_iff_lt, Nat.not_lt, Nat.not_le] at c_36
        rw [if_pos (show rnP D T sd i from h01.resolve_left (fun h => c_36 (by rw [h])))] at hv
        refine w_iload_n dX7_round_39 rfl ?_
        refine w_iret dX7_round_40 rfl (Nat.le_of_ble_eq_true rfl) (Nat.le_of_ble_eq_true rfl) ?_
        have h9 := hQ G hH hFH
        rw [← hv] at h9
        exact h9
theorem c_round {E : EV} {G : AH} {B tn im nw rm ru sp : Nat} {f : Nat → Nat} {wb sd si : Int32} {T Ti : ST} {D Di : LD} {P : Nat → ST × Int32}  (hH : HI G B tn f wb T sd D im Ti si Di nw rm P ru sp)  : Ci E 7 kX7_round [.ref B] G (fun r G1 => r = rndV D T sd ∧ HI G1 B tn f wb T sd D im Ti si Di nw rm P ru sp ∧ FH G G1 B) := by
  obtain ⟨hB, ⟨htn, him, hnw, hrm⟩, hT, hRd, ⟨hI, hBd⟩, hS, ⟨hL, hD, hSp, hrs⟩, ⟨hIi, hBi, hLi, hDi⟩, ⟨hPa, hPi⟩, ⟨⟨we, hwe⟩, hSm, hSv, ⟨od, hod⟩⟩⟩ := id hH; obtain ⟨⟨_, _, _, _, _, _, gS0⟩, _⟩ := id hS; have hI0 := hI.1; have hIi0 := hIi.1
  obtain ⟨i0, i1, i2, i3, i4, i5, i6, i7, i8, i9, i10, i11, i12, i13⟩ := id hI
  obtain ⟨b0, b1, b2_, b3, b4, b5, b6, b7, b8, b9, b10, b11, b12, b13, b14, b15, b16, b17, b18, b19⟩ := id hBd
  have hls := HI.ls hH
  have hla : ru + 6 ≤ B + 9 ∨ B + 9 + 14 ≤ ru := by omega
  have hlb : ru + 6 ≤ B + 23 ∨ B + 23 + 14 ≤ ru := by omega
  refine Ct.intro rfl (by decide) [.ref B, .float 0] (by simp [Value.category]) (Nat.le_of_ble_eq_true rfl) rfl ?_
  refine w_aload_n dX7_round_0 rfl ?_
  refine w_getf dX7_round_1 fl_X7_41 (by first | assumption | exact gs_at | (rw [gs_ne (by omega)]; (first | assumption | exact gs_at | (rw [gs_ne (by omega)]; (first | assumption | exact gs_at | (rw [gs_ne (by omega)]; (first | assumption | exact gs_at | (rw [gs_ne (by omega)]; (first | assumption | exact gs_at))))))))) rfl ?_
  refine w_aload_n dX7_round_4 rfl ?_
  refine w_getf dX7_round_5 fl_X7_37 (by first | assumption | exact gs_at | (rw [gs_ne (by omega)]; (first | assumption | exact gs_at | (rw [gs_ne (by omega)]; (first | assumption | exact gs_at | (rw [gs_ne (by omega)]; (first | assumption | exact gs_at | (rw [gs_ne (by omega)]; (first | assumption | exact gs_at))))))))) rfl ?_
  refine wV1d dX7_round_8 lk_X7_94 rfl (by first | assumption | exact gs_at | (rw [gs_ne (by omega)]; (first | assumption | exact gs_at | (rw [gs_ne (by omega)]; (first | assumption | exact gs_at | (rw [gs_ne (by omega)]; (first | assumption | exact gs_at | (rw [gs_ne (by omega)]; (first | assumption | exact gs_at))))))))) rfl rfl (c_copyIsl hS hI (by omega)) (Nat.le_of_ble_eq_true rfl) (Nat.le_of_ble_eq_true rfl) (Nat.le_of_ble_eq_true rfl) (Nat.le_of_ble_eq_true rfl) (fun G1 h_8 => ?_)
  obtain ⟨hJ1, hF1⟩ := h_8
  have hS9 := HSc.copy hH hJ1 hF1
  refine w_iconst (v := nI 1) dX7_round_11 (by decide) ?_
  refine w_istore_1 dX7_round_12 rfl ?_
  exact lp_round (fun G2 h h2 => ⟨_, rfl, rfl, h, h2⟩) 62 1 G1 (by omega) (by omega) hS9 (Nat.le_refl _) rfl
theorem lp_meet {E : EV} {Q : OC → AH → Prop} {G0 : AH} {B tn im nw rm ru sp : Nat} {f : Nat → Nat} {wb sd si : Int32} {T Ti : ST} {D Di : LD} {P : Nat → ST × Int32} {a b : Nat} (ha : a < 12) (hb : b < 12) (hQ : ∀ G1, HI G1 B tn f wb T sd D im Ti si Di nw rm P ru sp → FH G0 G1 B → Q (.inl (some (.int (mtV D T sd a b)))) G1) : ∀ (k i : Nat) (G : AH), 401 - i < k → i ≤ 401 → HSc G0 G B tn f wb T sd D im Ti si Di nw rm P ru sp ((adv D 0 T sd i).1) ((adv D 0 T sd i).2) → seekV (mtP D T sd a b) nI (401 - i) i = mtV D T sd a b → Wp E 7 0 0 kX7_firstMeeting Q G (0, 0) 13 [.ref B, .int (nI a), .int (nI b), .int (nI i)] [] := by
  intro k
  induction k with
  | zero => intro i G h; exact absurd h (by omega)
  | succ k ih =>
    intro i G hk hi hS9
    obtain ⟨hH, hJ, hBJ, hFH⟩ := id hS9; have hJ0 := hJ.1
    obtain ⟨hB, ⟨htn, him, hnw, hrm⟩, hT, hRd, ⟨hI, hBd⟩, hS, ⟨hL, hD, hSp, hrs⟩, ⟨hIi, hBi, hLi, hDi⟩, ⟨hPa, hPi⟩, ⟨⟨we, hwe⟩, hSm, hSv, ⟨od, hod⟩⟩⟩ := id hH; obtain ⟨⟨_, _, _, _, _, _, gS0⟩, _⟩ := id hS; have hI0 := hI.1; have hIi0 := hIi.1
    have hls := HI.ls hH
    have hlb : ru + 6 ≤ B + 23 ∨ B + 23 + 14 ≤ ru := by omega
    obtain ⟨j0, j1, j2, j3, j4, j5, j6, j7, j8, j9, j10, j11, j12, j13⟩ := id hJ
    have q2 := hBJ.2.2.1
    intro hv
    have := q2 a; have := q2 b
    refine w_iload_n dX7_firstMeeting_13 rfl ?_
    refine w_sipush (v := nI 400) dX7_firstMeeting_14 (by decide) ?_
    refine w_icmp_gt (tgt := 66) dX7_firstMeeting_17 (by decide) (fun c_17 => ?_) (fun c_17 => ?_)
    · try simp (disch := omega) only [nI_b2, Decidable.not_not, nI_ltI, nI_leI, nI_eq, ge_iff_le, gt_iff_lt, ne_eq, Nat.not_lt, Nat.not_le] at c_17
      have e : i = 401 := by omega
      subst e
      refine w_iconst (v := (-1)) dX7_firstMeeting_66 (by decide) ?_
      refine w_iret dX7_firstMeeting_67 rfl (Nat.le_of_ble_eq_true rfl) (Nat.le_of_ble_eq_true rfl) ?_
      have h9 := hQ G hH hFH
      rw [← hv] at h9
      exact h9
    · try simp (disch := omega) only [nI_b2, Decidable.not_not, nI_ltI, nI_leI, nI_eq, ge_iff_le, gt_iff_lt, ne_eq, Nat.not_lt, Nat.not_le] at c_17
      rw [show 401 - i = (401 - (i + 1)) + 1 by omega, seekV] at hv
      refine w_aload_n dX7_firstMeeting_20 rfl ?_
      refine w_getf dX7_firstMeeting_21 fl_X7_41 (by first | assumption | exact gs_at | (rw [gs_ne (by omega)]; (first | assumption | exact gs_at | (rw [gs_ne (by omega)]; (first | assumption | exact gs_at | (rw [gs_ne (by omega)]; (first | assumption | exact gs_at | (rw [gs_ne (by omega)]; (first | assumption | exact gs_at))))))))) rfl ?_
      refine w_getf dX7_firstMeeting_24 fl_X7_134 (by first | assumption | exact gs_at | (rw [gs_ne (by omega)]; (first | assumption | exact gs_at | (rw [gs_ne (by omega)]; (first | assumption | exact gs_at | (rw [gs_ne (by omega)]; (first | assumption | exact gs_at | (rw [gs_ne (by omega)]; (first | assumption | exact gs_at))))))))) rfl ?_
      refine w_iload_n dX7_firstMeeting_27 rfl ?_
      refine wS2u dX7_firstMeeting_28 lk_X7_137 rfl (c_atN j2 ha (by decide)) (Nat.le_of_ble_eq_true rfl) (Nat.le_of_ble_eq_true rfl) (Nat.le_of_ble_eq_true rfl) (Nat.le_of_ble_eq_true rfl) ?_
      refine w_aload_n dX7_firstMeeting_31 rfl ?_
      refine w_getf dX7_firstMeeting_32 fl_X7_41 (by first | assumption | exact gs_at | (rw [gs_ne (by omega)]; (first | assumption | exact gs_at | (rw [gs_ne (by omega)]; (first | assumption | exact gs_at | (rw [gs_ne (by omega)]; (first | assumption | exact gs_at | (rw [gs_ne (by omega)]; (first | assumption | exact gs_at))))))))) rfl ?_
      refine w_getf dX7_firstMeeting_35 fl_X7_134 (by first | assumption | exact gs_at | (rw [gs_ne (by omega)]; (first | assumption | exact gs_at | (rw [gs_ne (by omega)]; (first | assumption | exact gs_at | (rw [gs_ne (by omega)]; (first | assumption | exact gs_at | (rw [gs_ne (by omega)]; (first | assumption | exact gs_at))))))))) rfl ?_
      refine w_iload_n dX7_firstMeeting_38 rfl ?_
      refine wS2u dX7_firstMeeting_39 lk_X7_137 rfl (c_atN j2 hb (by decide)) (Nat.le_of_ble_eq_true rfl) (Nat.le_of_ble_eq_true rfl) (Nat.le_of_ble_eq_true rfl) (Nat.le_of_ble_eq_true rfl) ?_
      refine w_icmp_ne (tgt := 47) dX7_firstMeeting_42 (by decide) (fun c_42 => ?_) (fun c_42 => ?_)
      · try simp (disch := omega) only [nI_b2, Decidable.not_not, nI_ltI, nI_leI, nI_eq, ge_iff_le, gt_iff_lt, ne_eq, Nat.not_lt, Nat.not_le] at c_42
        rw [if_neg (show ¬ mtP D T sd a b i from c_42)] at hv
        refine w_aload_n dX7_firstMeeting_47 rfl ?_
        refine w_getf dX7_firstMeeting_48 fl_X7_41 (by first | assumption | exact gs_at | (rw [gs_ne (by omega)]; (first | assumption | exact gs_at | (rw [gs_ne (by omega)]; (first | assumption | exact gs_at | (rw [gs_ne (by omega)]; (first | assumption | exact gs_at | (rw [gs_ne (by omega)]; (first | assumption | exact gs_at))))))))) rfl ?_
        refine w_aload_n dX7_firstMeeting_51 rfl ?_
        refine w_getf dX7_firstMeeting_52 fl_X7_47 (by first | assumption | exact gs_at | (rw [gs_ne (by omega)]; (first | assumption | exact gs_at | (rw [gs_ne (by omega)]; (first | assumption | exact gs_at | (rw [gs_ne (by omega)]; (first | assumption | exact gs_at | (rw [gs_ne (by omega)]; (first | assumption | exact gs_at))))))))) rfl ?_
        refine w_iconst (v := nI 0) dX7_firstMeeting_55 (by decide) ?_
        refine wV2i dX7_firstMeeting_56 lk_X7_235 rfl (by first | assumption | exact gs_at | (rw [gs_ne (by omega)]; (first | assumption | exact gs_at | (rw [gs_ne (by omega)]; (first | assumption | exact gs_at | (rw [gs_ne (by omega)]; (first | assumption | exact gs_at | (rw [gs_ne (by omega)]; (first | assumption | exact gs_at))))))))) rfl rfl (c_passDay hL hD hJ hBJ (by decide) hlb) (Nat.le_of_ble_eq_true rfl) (Nat.le_of_ble_eq_true rfl) (Nat.le_of_ble_eq_true rfl) (Nat.le_of_ble_eq_true rfl) (fun r_56 G h_56 => ?_)
        obtain ⟨hr9, hJ1, hL1, hF1⟩ := h_56
        have hS9 := hS9.day hJ1 hL1 hF1
        refine w_pop dX7_firstMeeting_59 rfl ?_
        first | refine w_iinc_3 dX7_firstMeeting_60 (nI_inc _) rfl ?_ | refine w_iinc_3 dX7_firstMeeting_60 rfl rfl ?_
        refine w_goto (tgt := 13) dX7_firstMeeting_63 (by decide) ?_
        exact ih (i + 1) G (by omega) (by omega) hS9 hv
      · try simp (disch := omega) only [nI_b2, Decidable.not_not, nI_ltI, nI_leI, nI_eq, ge_iff_le, gt_iff_lt, ne_eq, Nat.not_lt, Nat.not_le] at c_42
        rw [if_pos (show mtP D T sd a b i from c_42)] at hv
        refine w_iload_n dX7_firstMeeting_45 rfl ?_
        refine w_iret dX7_firstMeeting_46 rfl (Nat.le_of_ble_eq_true rfl) (Nat.le_of_ble_eq_true rfl) ?_
        have h9 := hQ G hH hFH
        rw [← hv] at h9
        exact h9
theorem c_firstMeeting {E : EV} {G : AH} {B tn im nw rm ru sp : Nat} {f : Nat → Nat} {wb sd si : Int32} {T Ti : ST} {D Di : LD} {P : Nat → ST × Int32} {a b : Nat} (hH : HI G B tn f wb T sd D im Ti si Di nw rm P ru sp) (ha : a < 12) (hb : b < 12) : Ci E 7 kX7_firstMeeting [.ref B, .int (nI a), .int (nI b)] G (fun r G1 => r = mtV D T sd a b ∧ HI G1 B tn f wb T sd D im Ti si Di nw rm P ru sp ∧ FH G G1 B) := by
  obtain ⟨hB, ⟨htn, him, hnw, hrm⟩, hT, hRd, ⟨hI, hBd⟩, hS, ⟨hL, hD, hSp, hrs⟩, ⟨hIi, hBi, hLi, hDi⟩, ⟨hPa, hPi⟩, ⟨⟨we, hwe⟩, hSm, hSv, ⟨od, hod⟩⟩⟩ := id hH; obtain ⟨⟨_, _, _, _, _, _, gS0⟩, _⟩ := id hS; have hI0 := hI.1; have hIi0 := hIi.1
  obtain ⟨i0, i1, i2, i3, i4, i5, i6, i7, i8, i9, i10, i11, i12, i13⟩ := id hI
  obtain ⟨b0, b1, b2_, b3, b4, b5, b6, b7, b8, b9, b10, b11, b12, b13, b14, b15, b16, b17, b18, b19⟩ := id hBd
  have hls := HI.ls hH
  have hla : ru + 6 ≤ B + 9 ∨ B + 9 + 14 ≤ ru := by omega
  have hlb : ru + 6 ≤ B + 23 ∨ B + 23 + 14 ≤ ru := by omega
  refine Ct.intro rfl (by decide) [.ref B, .int (nI a), .int (nI b), .float 0] (by simp [Value.category]) (Nat.le_of_ble_eq_true rfl) rfl ?_
  refine w_aload_n dX7_firstMeeting_0 rfl ?_
  refine w_getf dX7_firstMeeting_1 fl_X7_41 (by first | assumption | exact gs_at | (rw [gs_ne (by omega)]; (first | assumption | exact gs_at | (rw [gs_ne (by omega)]; (first | assumption | exact gs_at | (rw [gs_ne (by omega)]; (first | assumption | exact gs_at | (rw [gs_ne (by omega)]; (first | assumption | exact gs_at))))))))) rfl ?_
  refine w_aload_n dX7_firstMeeting_4 rfl ?_
  refine w_getf dX7_firstMeeting_5 fl_X7_37 (by first | assumption | exact gs_at | (rw [gs_ne (by omega)]; (first | assumption | exact gs_at | (rw [gs_ne (by omega)]; (first | assumption | exact gs_at | (rw [gs_ne (by omega)]; (first | assumption | exact gs_at | (rw [gs_ne (by omega)]; (first | assumption | exact gs_at))))))))) rfl ?_
  refine wV1d dX7_firstMeeting_8 lk_X7_94 rfl (by first | assumption | exact gs_at | (rw [gs_ne (by omega)]; (first | assumption | exact gs_at | (rw [gs_ne (by omega)]; (first | assumption | exact gs_at | (rw [gs_ne (by omega)]; (first | assumption | exact gs_at | (rw [gs_ne (by omega)]; (first | assumption | exact gs_at))))))))) rfl rfl (c_copyIsl hS hI (by omega)) (Nat.le_of_ble_eq_true rfl) (Nat.le_of_ble_eq_true rfl) (Nat.le_of_ble_eq_true rfl) (Nat.le_of_ble_eq_true rfl) (fun G1 h_8 => ?_)
  obtain ⟨hJ1, hF1⟩ := h_8
  have hS9 := HSc.copy hH hJ1 hF1
  refine w_iconst (v := nI 0) dX7_firstMeeting_11 (by decide) ?_
  refine w_istore_3 dX7_firstMeeting_12 rfl ?_
  exact lp_meet ha hb (fun G2 h h2 => ⟨_, rfl, rfl, h, h2⟩) 402 0 G1 (by omega) (by omega) hS9 rfl
theorem c_seed {E : EV} {G : AH} {B tn im nw rm ru sp : Nat} {f : Nat → Nat} {wb sd si : Int32} {T Ti : ST} {D Di : LD} {P : Nat → ST × Int32} {x : Int32} (hH : HI G B tn f wb T sd D im Ti si Di nw rm P ru sp)  : Ci E 1 kX7_seed [.ref B, .int x] G (fun r G1 => r = sd ∧ HI G1 B tn f wb T (x) D im Ti si Di nw rm P ru sp ∧ FH G G1 B) := by
  obtain ⟨hB, ⟨htn, him, hnw, hrm⟩, hT, hRd, ⟨hI, hBd⟩, hS, ⟨hL, hD, hSp, hrs⟩, ⟨hIi, hBi, hLi, hDi⟩, ⟨hPa, hPi⟩, ⟨⟨we, hwe⟩, hSm, hSv, ⟨od, hod⟩⟩⟩ := id hH; obtain ⟨⟨_, _, _, _, _, _, gS0⟩, _⟩ := id hS; have hI0 := hI.1; have hIi0 := hIi.1
  obtain ⟨i0, i1, i2, i3, i4, i5, i6, i7, i8, i9, i10, i11, i12, i13⟩ := id hI
  obtain ⟨b0, b1, b2_, b3, b4, b5, b6, b7, b8, b9, b10, b11, b12, b13, b14, b15, b16, b17, b18, b19⟩ := id hBd
  have hls := HI.ls hH
  have hla : ru + 6 ≤ B + 9 ∨ B + 9 + 14 ≤ ru := by omega
  have hlb : ru + 6 ≤ B + 23 ∨ B + 23 + 14 ≤ ru := by omega
  refine Ct.intro rfl (by decide) [.ref B, .int x, .float 0] (by simp [Value.category]) (Nat.le_of_ble_eq_true rfl) rfl ?_
  refine w_aload_n dX7_seed_0 rfl ?_
  refine w_getf dX7_seed_1 fl_X7_37 (by first | assumption | exact gs_at | (rw [gs_ne (by omega)]; (first | assumption | exact gs_at | (rw [gs_ne (by omega)]; (first | assumption | exact gs_at | (rw [gs_ne (by omega)]; (first | assumption | exact gs_at | (rw [gs_ne (by omega)]; (first | assumption | exact gs_at))))))))) rfl ?_
  refine w_getf dX7_seed_4 fl_X7_326 (by first | assumption | exact gs_at | (rw [gs_ne (by omega)]; (first | assumption | exact gs_at | (rw [gs_ne (by omega)]; (first | assumption | exact gs_at | (rw [gs_ne (by omega)]; (first | assumption | exact gs_at | (rw [gs_ne (by omega)]; (first | assumption | exact gs_at))))))))) rfl ?_
  refine w_istore_2 dX7_seed_7 rfl ?_
  refine w_aload_n dX7_seed_8 rfl ?_
  refine w_getf dX7_seed_9 fl_X7_37 (by first | assumption | exact gs_at | (rw [gs_ne (by omega)]; (first | assumption | exact gs_at | (rw [gs_ne (by omega)]; (first | assumption | exact gs_at | (rw [gs_ne (by omega)]; (first | assumption | exact gs_at | (rw [gs_ne (by omega)]; (first | assumption | exact gs_at))))))))) rfl ?_
  refine w_iload_n dX7_seed_12 rfl ?_
  refine w_pisSd hI dX7_seed_13 fl_X7_326 (fun G9 hI9 hF9 => ?_)
  refine w_iload_n dX7_seed_16 rfl ?_
  refine w_iret dX7_seed_17 rfl (Nat.le_of_ble_eq_true rfl) (Nat.le_of_ble_eq_true rfl) ?_
  exact ⟨_, rfl, rfl, hH.now hI9 hBd hF9, hF9.toH (by omega) (by omega)⟩
theorem c_take {E : EV} {G : AH} {B tn im nw rm ru sp : Nat} {f : Nat → Nat} {wb sd si : Int32} {T Ti : ST} {D Di : LD} {P : Nat → ST × Int32}  (hH : HI G B tn f wb T sd D im Ti si Di nw rm P ru sp)  : Ci E 6 kX7_take [.ref B] G (fun r G1 => r = nI (cntN 12 (bitN (mis T) (T 12 0))) ∧ HI G1 B tn f wb (takeT T) sd D im Ti si Di ((nw + 1) % 12) (min 12 (rm + 1)) (updP P ((nw + 1) % 12) (T, sd)) ru sp ∧ FH G G1 B) := by
  obtain ⟨hB, ⟨htn, him, hnw, hrm⟩, hT, hRd, ⟨hI, hBd⟩, hS, ⟨hL, hD, hSp, hrs⟩, ⟨hIi, hBi, hLi, hDi⟩, ⟨hPa, hPi⟩, ⟨⟨we, hwe⟩, hSm, hSv, ⟨od, hod⟩⟩⟩ := id hH; obtain ⟨⟨_, _, _, _, _, _, gS0⟩, _⟩ := id hS; have hI0 := hI.1; have hIi0 := hIi.1
  obtain ⟨i0, i1, i2, i3, i4, i5, i6, i7, i8, i9, i10, i11, i12, i13⟩ := id hI
  obtain ⟨b0, b1, b2_, b3, b4, b5, b6, b7, b8, b9, b10, b11, b12, b13, b14, b15, b16, b17, b18, b19⟩ := id hBd
  have hls := HI.ls hH
  have hla : ru + 6 ≤ B + 9 ∨ B + 9 + 14 ≤ ru := by omega
  have hlb : ru + 6 ≤ B + 23 ∨ B + 23 + 14 ≤ ru := by omega
  refine Ct.intro rfl (by decide) [.ref B, .float 0] (by simp [Value.category]) (Nat.le_of_ble_eq_true rfl) rfl ?_
  refine w_aload_n dX7_take_0 rfl ?_
  refine wV0d dX7_take_1 lk_X7_208 rfl (by first | assumption | exact gs_at | (rw [gs_ne (by omega)]; (first | assumption | exact gs_at | (rw [gs_ne (by omega)]; (first | assumption | exact gs_at | (rw [gs_ne (by omega)]; (first | assumption | exact gs_at | (rw [gs_ne (by omega)]; (first | assumption | exact gs_at))))))))) rfl rfl (c_remember hH) (Nat.le_of_ble_eq_true rfl) (Nat.le_of_ble_eq_true rfl) (Nat.le_of_ble_eq_true rfl) (Nat.le_of_ble_eq_true rfl) (fun G h_1 => ?_)
  obtain ⟨hH, hFH⟩ := h_1
  obtain ⟨hB, ⟨htn, him, hnw, hrm⟩, hT, hRd, ⟨hI, hBd⟩, hS, ⟨hL, hD, hSp, hrs⟩, ⟨hIi, hBi, hLi, hDi⟩, ⟨hPa, hPi⟩, ⟨⟨we, hwe⟩, hSm, hSv, ⟨od, hod⟩⟩⟩ := id hH; obtain ⟨⟨_, _, _, _, _, _, gS0⟩, _⟩ := id hS; have hI0 := hI.1; have hIi0 := hIi.1
  refine w_aload_n dX7_take_4 rfl ?_
  refine w_getf dX7_take_5 fl_X7_37 (by first | assumption | exact gs_at | (rw [gs_ne (by omega)]; (first | assumption | exact gs_at | (rw [gs_ne (by omega)]; (first | assumption | exact gs_at | (rw [gs_ne (by omega)]; (first | assumption | exact gs_at | (rw [gs_ne (by omega)]; (first | assumption | exact gs_at))))))))) rfl ?_
  refine wV0u dX7_take_8 lk_X7_224 rfl (by first | assumption | exact gs_at | (rw [gs_ne (by omega)]; (first | assumption | exact gs_at | (rw [gs_ne (by omega)]; (first | assumption | exact gs_at | (rw [gs_ne (by omega)]; (first | assumption | exact gs_at | (rw [gs_ne (by omega)]; (first | assumption | exact gs_at))))))))) rfl rfl (c_missingOnes hI hBd) (Nat.le_of_ble_eq_true rfl) (Nat.le_of_ble_eq_true rfl) (Nat.le_of_ble_eq_true rfl) (Nat.le_of_ble_eq_true rfl) ?_
  refine wJ1u dX7_take_11 lk_X7_227 rfl (c_bitCount (bitN_12 _ b0)) (Nat.le_of_ble_eq_true rfl) (Nat.le_of_ble_eq_true rfl) (Nat.le_of_ble_eq_true rfl) (Nat.le_of_ble_eq_true rfl) ?_
  refine w_istore_1 dX7_take_14 rfl ?_
  refine w_aload_n dX7_take_15 rfl ?_
  refine w_getf dX7_take_16 fl_X7_37 (by first | assumption | exact gs_at | (rw [gs_ne (by omega)]; (first | assumption | exact gs_at | (rw [gs_ne (by omega)]; (first | assumption | exact gs_at | (rw [gs_ne (by omega)]; (first | assumption | exact gs_at | (rw [gs_ne (by omega)]; (first | assumption | exact gs_at))))))))) rfl ?_
  refine wV0d dX7_take_19 lk_X7_232 rfl (by first | assumption | exact gs_at | (rw [gs_ne (by omega)]; (first | assumption | exact gs_at | (rw [gs_ne (by omega)]; (first | assumption | exact gs_at | (rw [gs_ne (by omega)]; (first | assumption | exact gs_at | (rw [gs_ne (by omega)]; (first | assumption | exact gs_at))))))))) rfl rfl (c_takeInventory hI hBd) (Nat.le_of_ble_eq_true rfl) (Nat.le_of_ble_eq_true rfl) (Nat.le_of_ble_eq_true rfl) (Nat.le_of_ble_eq_true rfl) (fun G h_19 => ?_)
  obtain ⟨hI9, hF9⟩ := h_19
  refine w_iload_n dX7_take_22 rfl ?_
  refine w_iret dX7_take_23 rfl (Nat.le_of_ble_eq_true rfl) (Nat.le_of_ble_eq_true rfl) ?_
  exact ⟨_, rfl, rfl, hH.now hI9 hBd.take hF9, hFH.tr (hF9.toH (by omega) (by omega))⟩
