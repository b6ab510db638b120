/-! what is ahead: calls that may refuse -/
theorem c_ahead {E : EV} {G : AH} {B tn im nw rm ru sp : Nat} {f : Nat → Nat} {wb sd si : Int32} {T Ti : ST} {D Di : LD} {P : Nat → ST × Int32} {x y w : Int32} (hH : HI G B tn f wb T sd D im Ti si Di nw rm P ru sp)  : Ct E 10 3 18 kX7_ahead [.ref B, .int x, .int y, .int w] G (fun o G1 => XOut ["java/lang/IndexOutOfBoundsException", "java/lang/IllegalArgumentException", "java/util/NoSuchElementException"] (xk3 (okI (T 12 0) x) (okN 0 (nI 400) y) (okN 0 (nI 2) w)) (aheadV (adv D 0 T sd (ix y)).1 (ix x) w) o ∧ HI G1 B tn f wb T sd D im Ti si Di nw rm P ru sp ∧ FH G G1 B) := by
  obtain ⟨hB, ⟨htn, him, hnw, hrm⟩, hT, hRd, ⟨hI, hBd⟩, hS, ⟨hL, hD, hSp, hrs⟩, ⟨hIi, hBi, hLi, hDi⟩, ⟨hPa, hPi⟩, ⟨⟨we, hwe⟩, hSm, hSv, ⟨od, hod⟩⟩⟩ := id hH; obtain ⟨⟨_, _, _, _, _, _, gS0⟩, _⟩ := id hS; have hI0 := hI.1; have hIi0 := hIi.1
  obtain ⟨i0, i1, i2, i3, i4, i5, i6, i7, i8, i9, i10, i11, i12, i13⟩ := id hI
  obtain ⟨b0, b1, b2_, b3, b4, b5, b6, b7, b8, b9, b10, b11, b12, b13, b14, b15, b16, b17, b18, b19⟩ := id hBd
  have hls := HI.ls hH
  have hla : ru + 6 ≤ B + 9 ∨ B + 9 + 14 ≤ ru := by omega
  have hlb : ru + 6 ≤ B + 23 ∨ B + 23 + 14 ≤ ru := by omega
  refine Ct.intro rfl (by decide) [.ref B, .int x, .int y, .int w] (by simp [Value.category]) (Nat.le_of_ble_eq_true rfl) rfl ?_
  refine w_aload_n dX7_ahead_0 rfl ?_
  refine w_iload_n dX7_ahead_1 rfl ?_
  refine wV1k dX7_ahead_2 lk_X7_127 rfl (by first | assumption | exact gs_at | (rw [gs_ne (by omega)]; (first | assumption | exact gs_at | (rw [gs_ne (by omega)]; (first | assumption | exact gs_at | (rw [gs_ne (by omega)]; (first | assumption | exact gs_at | (rw [gs_ne (by omega)]; (first | assumption | exact gs_at))))))))) rfl rfl rfl (c_checkItem hB hI) (Nat.le_of_ble_eq_true rfl) (Nat.le_of_ble_eq_true rfl) (Nat.le_of_ble_eq_true rfl) (Nat.le_of_ble_eq_true rfl) ((fun h9 n9 h8 => ⟨XOut.no (j := 0) (by rw [xk3, if_neg h9]) rfl, hH.x, FH.x h8⟩)) (fun ok_2 => ?_)
  obtain ⟨i, hi9, rfl⟩ := in_N (by omega) ok_2
  refine w_iload_n dX7_ahead_5 rfl ?_
  refine w_iconst (v := nI 0) dX7_ahead_6 (by decide) ?_
  refine w_sipush (v := nI 400) dX7_ahead_7 (by decide) ?_
  refine wS3k dX7_ahead_10 lk_X7_220 rfl rfl (c_checkNumber) (Nat.le_of_ble_eq_true rfl) (Nat.le_of_ble_eq_true rfl) (Nat.le_of_ble_eq_true rfl) (Nat.le_of_ble_eq_true rfl) ((fun h9 n9 h8 => ⟨XOut.no (j := 1) (by rw [xk3, if_pos ok_2, if_neg h9]) rfl, hH.x, FH.x h8⟩)) (fun ok_10 => ?_)
  obtain ⟨j, hj8, hj9, rfl⟩ := in_L (by omega) (by omega) ok_10
  refine w_iload_n dX7_ahead_13 rfl ?_
  refine w_iconst (v := nI 2) dX7_ahead_14 (by decide) ?_
  refine wS2k dX7_ahead_15 lk_X7_130 rfl rfl (c_checkWhat) (Nat.le_of_ble_eq_true rfl) (Nat.le_of_ble_eq_true rfl) (Nat.le_of_ble_eq_true rfl) (Nat.le_of_ble_eq_true rfl) ((fun h9 n9 h8 => ⟨XOut.no (j := 2) (by rw [xk3, if_pos ok_2, if_pos ok_10, if_neg h9]) rfl, hH.x, FH.x h8⟩)) (fun ok_15 => ?_)
  refine w_aload_n dX7_ahead_18 rfl ?_
  refine w_iload_n dX7_ahead_19 rfl ?_
  refine wV1d dX7_ahead_20 lk_X7_239 rfl (by first | assumption | exact gs_at | (rw [gs_ne (by omega)]; (first | assumption | exact gs_at | (rw [gs_ne (by omega)]; (first | assumption | exact gs_at | (rw [gs_ne (by omega)]; (first | assumption | exact gs_at | (rw [gs_ne (by omega)]; (first | assumption | exact gs_at))))))))) rfl rfl (c_goAhead hH hj9) (Nat.le_of_ble_eq_true rfl) (Nat.le_of_ble_eq_true rfl) (Nat.le_of_ble_eq_true rfl) (Nat.le_of_ble_eq_true rfl) (fun G h_20 => ?_)
  have hS9 := h_20
  obtain ⟨hH, hJ, hBJ, hFH⟩ := id hS9; have hJ0 := hJ.1
  obtain ⟨hB, ⟨htn, him, hnw, hrm⟩, hT, hRd, ⟨hI, hBd⟩, hS, ⟨hL, hD, hSp, hrs⟩, ⟨hIi, hBi, hLi, hDi⟩, ⟨hPa, hPi⟩, ⟨⟨we, hwe⟩, hSm, hSv, ⟨od, hod⟩⟩⟩ := id hH; obtain ⟨⟨_, _, _, _, _, _, gS0⟩, _⟩ := id hS; have hI0 := hI.1; have hIi0 := hIi.1
  have hJ0 := hJ.1
  have h12 := adv_0 D 0 T sd j
  refine w_iload_n dX7_ahead_23 rfl ?_
  by_cases s_24_0 : w = nI 0
  · refine w_lookup (tgt := 52) (off := 28) dX7_ahead_24 (by decide) (by rw [s_24_0]; decide) (by decide) ?_
    refine w_aload_n dX7_ahead_52 rfl ?_
    refine w_getf dX7_ahead_53 fl_X7_41 (by first | assumption | exact gs_at | (rw [gs_ne (by omega)]; (first | assumption | exact gs_at | (rw [gs_ne (by omega)]; (first | assumption | exact gs_at | (rw [gs_ne (by omega)]; (first | assumption | exact gs_at | (rw [gs_ne (by omega)]; (first | assumption | exact gs_at))))))))) rfl ?_
    refine w_getf dX7_ahead_56 fl_X7_134 (by first | assumption | exact gs_at | (rw [gs_ne (by omega)]; (first | assumption | exact gs_at | (rw [gs_ne (by omega)]; (first | assumption | exact gs_at | (rw [gs_ne (by omega)]; (first | assumption | exact gs_at | (rw [gs_ne (by omega)]; (first | assumption | exact gs_at))))))))) rfl ?_
    refine w_iload_n dX7_ahead_59 rfl ?_
    refine wS2u dX7_ahead_60 lk_X7_137 rfl (c_atN (f := fun i => nI ((adv D 0 T sd j).1 1 i)) hJ.2.2.1 (by omega) (by decide)) (Nat.le_of_ble_eq_true rfl) (Nat.le_of_ble_eq_true rfl) (Nat.le_of_ble_eq_true rfl) (Nat.le_of_ble_eq_true rfl) ?_
    refine w_iret dX7_ahead_63 rfl (Nat.le_of_ble_eq_true rfl) (Nat.le_of_ble_eq_true rfl) ?_
    refine ⟨XOut.ok (by rw [xk3, if_pos ok_2, if_pos ok_10, if_pos ok_15]) ?_, hH, hFH⟩
    try rw [ix_nI (by omega)]
    try rw [ix_nI (by omega)]
    rw [aheadV]
    first
      | (rw [if_pos s_24_0]; done)
      | (rw [if_neg s_24_0, if_pos s_24_1]; done)
      | (rw [if_neg s_24_0, if_neg s_24_1]; done)
      | (rw [if_pos s_24_0, b2, if_pos c_84]; done)
      | (rw [if_pos s_24_0, b2, if_neg (fun h => c_84 h)]; done)
      | (rw [if_pos s_24_0, b2, if_neg (fun h => h c_84)]; done)
      | (rw [if_neg s_24_0, if_pos s_24_1, b2, if_pos c_84]; done)
      | (rw [if_neg s_24_0, if_pos s_24_1, b2, if_neg (fun h => c_84 h)]; done)
      | (rw [if_neg s_24_0, if_pos s_24_1, b2, if_neg (fun h => h c_84)]; done)
      | (rw [if_neg s_24_0, if_neg s_24_1, b2, if_pos c_84]; done)
      | (rw [if_neg s_24_0, if_neg s_24_1, b2, if_neg (fun h => c_84 h)]; done)
      | (rw [if_neg s_24_0, if_neg s_24_1, b2, if_neg (fun h => h c_84)]; done)
  ·
    by_cases s_24_1 : w = nI 1
    · refine w_lookup (tgt := 64) (off := 40) dX7_ahead_24 (by decide) (by rw [s_24_1]; decide) (by decide) ?_
      refine w_aload_n dX7_ahead_64 rfl ?_
      refine w_getf dX7_ahead_65 fl_X7_41 (by first | assumption | exact gs_at | (rw [gs_ne (by omega)]; (first | assumption | exact gs_at | (rw [gs_ne (by omega)]; (first | assumption | exact gs_at | (rw [gs_ne (by omega)]; (first | assumption | exact gs_at | (rw [gs_ne (by omega)]; (first | assumption | exact gs_at))))))))) rfl ?_
      refine w_getf dX7_ahead_68 fl_X7_144 (by first | assumption | exact gs_at | (rw [gs_ne (by omega)]; (first | assumption | exact gs_at | (rw [gs_ne (by omega)]; (first | assumption | exact gs_at | (rw [gs_ne (by omega)]; (first | assumption | exact gs_at | (rw [gs_ne (by omega)]; (first | assumption | exact gs_at))))))))) rfl ?_
      refine w_iload_n dX7_ahead_71 rfl ?_
      refine wS2u dX7_ahead_72 lk_X7_137 rfl (c_atN (f := fun i => nI ((adv D 0 T sd j).1 2 i)) hJ.2.2.2.1 (by omega) (by decide)) (Nat.le_of_ble_eq_true rfl) (Nat.le_of_ble_eq_true rfl) (Nat.le_of_ble_eq_true rfl) (Nat.le_of_ble_eq_true rfl) ?_
      refine w_iret dX7_ahead_75 rfl (Nat.le_of_ble_eq_true rfl) (Nat.le_of_ble_eq_true rfl) ?_
      refine ⟨XOut.ok (by rw [xk3, if_pos ok_2, if_pos ok_10, if_pos ok_15]) ?_, hH, hFH⟩
      try rw [ix_nI (by omega)]
      try rw [ix_nI (by omega)]
      rw [aheadV]
      first
        | (rw [if_pos s_24_0]; done)
        | (rw [if_neg s_24_0, if_pos s_24_1]; done)
        | (rw [if_neg s_24_0, if_neg s_24_1]; done)
        | (rw [if_pos s_24_0, b2, if_pos c_84]; done)
        | (rw [if_pos s_24_0, b2, if_neg (fun h => c_84 h)]; done)
        | (rw [if_pos s_24_0, b2, if_neg (fun h => h c_84)]; done)
        | (rw [if_neg s_24_0, if_pos s_24_1, b2, if_pos c_84]; done)
        | (rw [if_neg s_24_0, if_pos s_24_1, b2, if_neg (fun h => c_84 h)]; done)
        | (rw [if_neg s_24_0, if_pos s_24_1, b2, if_neg (fun h => h c_84)]; done)
        | (rw [if_neg s_24_0, if_neg s_24_1, b2, if_pos c_84]; done)
        | (rw [if_neg s_24_0, if_neg s_24_1, b2, if_neg (fun h => c_84 h)]; done)
        | (rw [if_neg s_24_0, if_neg s_24_1, b2, if_neg (fun h => h c_84)]; done)
    ·
      refine w_lookup (tgt := 76) (off := 52) dX7_ahead_24 (by decide) (by show Op.lookupswitch.offset [(0, 28), (1, 40)] 52 (w).toInt = 52; rw [lv_osw (a := 0) s_24_0 rfl, lv_osw (a := 1) s_24_1 rfl]; rfl) (by decide) ?_
      refine w_aload_n dX7_ahead_76 rfl ?_
      refine w_getf dX7_ahead_77 fl_X7_41 (by first | assumption | exact gs_at | (rw [gs_ne (by omega)]; (first | assumption | exact gs_at | (rw [gs_ne (by omega)]; (first | assumption | exact gs_at | (rw [gs_ne (by omega)]; (first | assumption | exact gs_at | (rw [gs_ne (by omega)]; (first | assumption | exact gs_at))))))))) rfl ?_
      refine w_iload_n dX7_ahead_80 rfl ?_
      refine wV1u dX7_ahead_81 lk_X7_159 rfl (by first | assumption | exact gs_at | (rw [gs_ne (by omega)]; (first | assumption | exact gs_at | (rw [gs_ne (by omega)]; (first | assumption | exact gs_at | (rw [gs_ne (by omega)]; (first | assumption | exact gs_at | (rw [gs_ne (by omega)]; (first | assumption | exact gs_at))))))))) rfl rfl (c_isMissing hJ hBJ (by omega)) (Nat.le_of_ble_eq_true rfl) (Nat.le_of_ble_eq_true rfl) (Nat.le_of_ble_eq_true rfl) (Nat.le_of_ble_eq_true rfl) ?_
      have hJ1 := hBJ.2.2.1 i; have hJ5 := hBJ.2.2.2.2.2.2.1 i
      refine w_ifN_eq (tgt := 91) dX7_ahead_84 (by decide) (fun c_84 => ?_) (fun c_84 => ?_)
      · try simp (disch := omega) only [nI_b2, Decidable.not_not, nI_ltI, nI_leI, nI_eq, ge_iff_le, gt_iff_lt, ne_eq, Nat.not_lt, Nat.not_le] at c_84
        refine w_iconst (v := nI 0) dX7_ahead_91 (by decide) ?_
        refine w_iret dX7_ahead_92 rfl (Nat.le_of_ble_eq_true rfl) (Nat.le_of_ble_eq_true rfl) ?_
        refine ⟨XOut.ok (by rw [xk3, if_pos ok_2, if_pos ok_10, if_pos ok_15]) ?_, hH, hFH⟩
        try rw [ix_nI (by omega)]
        try rw [ix_nI (by omega)]
        rw [aheadV]
        first
          | (rw [if_pos s_24_0]; done)
          | (rw [if_neg s_24_0, if_pos s_24_1]; done)
          | (rw [if_neg s_24_0, if_neg s_24_1]; done)
          | (rw [if_pos s_24_0, b2, if_pos c_84]; done)
          | (rw [if_pos s_24_0, b2, if_neg (fun h => c_84 h)]; done)
          | (rw [if_pos s_24_0, b2, if_neg (fun h => h c_84)]; done)
          | (rw [if_neg s_24_0, if_pos s_24_1, b2, if_pos c_84]; done)
          | (rw [if_neg s_24_0, if_pos s_24_1, b2, if_neg (fun h => c_84 h)]; done)
          | (rw [if_neg s_24_0, if_pos s_24_1, b2, if_neg (fun h => h c_84)]; done)
          | (rw [if_neg s_24_0, if_neg s_24_1, b2, if_pos c_84]; done)
          | (rw [if_neg s_24_0, if_neg s_24_1, b2, if_neg (fun h => c_84 h)]; done)
          | (rw [if_neg s_24_0, if_neg s_24_1, b2, if_neg (fun h => h c_84)]; done)
      · try simp (disch := omega) only [nI_b2, Decidable.not_not, nI_ltI, nI_leI, nI_eq, ge_iff_le, gt_iff_lt, ne_eq, Nat.not_lt, Nat.not_le] at c_84
        refine w_iconst (v := nI 1) dX7_ahead_87 (by decide) ?_
        refine w_goto (tgt := 92) dX7_ahead_88 (by decide) ?_
        refine w_iret dX7_ahead_92 rfl (Nat.le_of_ble_eq_true rfl) (Nat.le_of_ble_eq_true rfl) ?_
        refine ⟨XOut.ok (by rw [xk3, if_pos ok_2, if_pos ok_10, if_pos ok_15]) ?_, hH, hFH⟩
        try rw [ix_nI (by omega)]
        try rw [ix_nI (by omega)]
        rw [aheadV]
        first
          | (rw [if_pos s_24_0]; done)
          | (rw [if_neg s_24_0, if_pos s_24_1]; done)
          | (rw [if_neg s_24_0, if_neg s_24_1]; done)
          | (rw [if_pos s_24_0, b2, if_pos c_84]; done)
          | (rw [if_pos s_24_0, b2, if_neg (fun h => c_84 h)]; done)
          | (rw [if_pos s_24_0, b2, if_neg (fun h => h c_84)]; done)
          | (rw [if_neg s_24_0, if_pos s_24_1, b2, if_pos c_84]; done)
          | (rw [if_neg s_24_0, if_pos s_24_1, b2, if_neg (fun h => c_84 h)]; done)
          | (rw [if_neg s_24_0, if_pos s_24_1, b2, if_neg (fun h => h c_84)]; done)
          | (rw [if_neg s_24_0, if_neg s_24_1, b2, if_pos c_84]; done)
          | (rw [if_neg s_24_0, if_neg s_24_1, b2, if_neg (fun h => c_84 h)]; done)
          | (rw [if_neg s_24_0, if_neg s_24_1, b2, if_neg (fun h => h c_84)]; done)
def wstN (T : ST) : Nat → Nat | 0 => 0 | k + 1 => if k = 0 then 0 else if T 2 (wstN T k) < T 2 k then k else wstN T k
theorem wstN_lt (T : ST) : ∀ k, wstN T (k + 1) ≤ k
  | 0 => by rw [wstN, if_pos rfl]; exact Nat.le_refl _
  | k + 1 => by have := wstN_lt T k; rw [wstN, if_neg (by omega)]; split <;> omega
def wstV (T : ST) (k : Nat) : Int32 := if k = 0 then -1 else nI (wstN T k)
def wstM (T : ST) (k : Nat) : Int32 := if k = 0 then -1 else nI (T 2 (wstN T k))
theorem wstV_t {T : ST} (hB : Bd T) {i : Nat} (h : wstM T i < nI (T 2 i)) : wstV T (i + 1) = nI i ∧ wstM T (i + 1) = nI (T 2 i) := by
  have hb := hB.2.2.2.1
  unfold wstV wstM at *
  rw [if_neg (show ¬ i + 1 = 0 by omega), if_neg (show ¬ i + 1 = 0 by omega), wstN]
  by_cases h0 : i = 0
  · rw [if_pos h0, h0]; exact ⟨rfl, rfl⟩
  · rw [if_neg h0] at h ⊢
    have h1 := hb i; have h2 := hb (wstN T i)
    rw [nI_ltI (by omega) (by omega)] at h
    rw [if_pos h]; exact ⟨rfl, rfl⟩
theorem wstV_f {T : ST} (hB : Bd T) {i : Nat} (h : ¬ wstM T i < nI (T 2 i)) : wstV T (i + 1) = wstV T i ∧ wstM T (i + 1) = wstM T i := by
  have hb := hB.2.2.2.1
  unfold wstV wstM at *
  rw [if_neg (show ¬ i + 1 = 0 by omega), wstN]
  by_cases h0 : i = 0
  · rw [if_pos h0] at h
    have h1 := hb i
    exact absurd (Int32.lt_of_lt_of_le (show (-1 : Int32) < nI 0 by decide) ((nI_leI (by omega) (by omega)).mpr (Nat.zero_le _))) h
  · rw [if_neg h0] at h ⊢
    rw [if_neg h0, if_neg (show ¬ i + 1 = 0 by omega)]
    have h1 := hb i; have h2 := hb (wstN T i)
    rw [nI_ltI (by omega) (by omega)] at h
    rw [if_neg h]; exact ⟨rfl, by rw [if_neg h0]⟩
theorem lp_worst {E : EV} {Q : OC → AH → Prop} {G0 G : AH} {B tn im nw rm ru sp : Nat} {f : Nat → Nat} {wb sd si : Int32} {T Ti : ST} {D Di : LD} {P : Nat → ST × Int32} {x : Int32} {T2 : ST} {s2 : Int32} (hS9 : HSc G0 G B tn f wb T sd D im Ti si Di nw rm P ru sp T2 s2) (hQ : Q (.inl (some (.int (wstV T2 (T2 12 0))))) G) : ∀ (k i : Nat), T2 12 0 - i < k → i ≤ T2 12 0 → Wp E 10 1 6 kX7_worst Q G (1, 6) 20 [.ref B, .int x, .int (wstV T2 i), .int (wstM T2 i), .int (nI i)] [] := by
  intro k
  induction k with
  | zero => intro i h; exact absurd h (by omega)
  | succ k ih =>
    intro i hk hi
    obtain ⟨hH, hJ, hBJ, hFH⟩ := id hS9; have hJ0 := hJ.1
    obtain ⟨hB, ⟨htn, him, hnw, hrm⟩, hT, hRd, ⟨hI, hBd⟩, hS, ⟨hL, hD, hSp, hrs⟩, ⟨hIi, hBi, hLi, hDi⟩, ⟨hPa, hPi⟩, ⟨⟨we, hwe⟩, hSm, hSv, ⟨od, hod⟩⟩⟩ := id hH; obtain ⟨⟨_, _, _, _, _, _, gS0⟩, _⟩ := id hS; have hI0 := hI.1; have hIi0 := hIi.1
    have hJ0 := hJ.1
    obtain ⟨q0, q1, q2, q3, q4, q5, q6, q7, q8, q9, q10, q11, q12, q13, q14, q15, q16, q17, q18, q19⟩ := id hBJ
    refine w_iload dX7_worst_20 rfl ?_
    refine w_aload_n dX7_worst_22 rfl ?_
    refine w_getf dX7_worst_23 fl_X7_41 (by first | assumption | exact gs_at | (rw [gs_ne (by omega)]; (first | assumption | exact gs_at | (rw [gs_ne (by omega)]; (first | assumption | exact gs_at | (rw [gs_ne (by omega)]; (first | assumption | exact gs_at | (rw [gs_ne (by omega)]; (first | assumption | exact gs_at))))))))) rfl ?_
    refine w_getf dX7_worst_26 fl_X7_242 (by first | assumption | exact gs_at | (rw [gs_ne (by omega)]; (first | assumption | exact gs_at | (rw [gs_ne (by omega)]; (first | assumption | exact gs_at | (rw [gs_ne (by omega)]; (first | assumption | exact gs_at | (rw [gs_ne (by omega)]; (first | assumption | exact gs_at))))))))) rfl ?_
    refine w_icmp_ge (tgt := 70) dX7_worst_29 (by decide) (fun c_29 => ?_) (fun c_29 => ?_)
    · try simp (disch := omega) only [nI_ltI, nI_leI, ge_iff_le, gt_iff_lt, Nat.not_lt, Nat.not_le] at c_29
      refine w_iload_n dX7_worst_70 rfl ?_
      refine w_iret dX7_worst_71 rfl (Nat.le_of_ble_eq_true rfl) (Nat.le_of_ble_eq_true rfl) ?_
      rw [show i = T2 12 0 by omega]
      exact hQ
    · try simp (disch := omega) only [nI_ltI, nI_leI, ge_iff_le, gt_iff_lt, Nat.not_lt, Nat.not_le] at c_29
      refine w_aload_n dX7_worst_32 rfl ?_
      refine w_getf dX7_worst_33 fl_X7_41 (by first | assumption | exact gs_at | (rw [gs_ne (by omega)]; (first | assumption | exact gs_at | (rw [gs_ne (by omega)]; (first | assumption | exact gs_at | (rw [gs_ne (by omega)]; (first | assumption | exact gs_at | (rw [gs_ne (by omega)]; (first | assumption | exact gs_at))))))))) rfl ?_
      refine w_getf dX7_worst_36 fl_X7_144 (by first | assumption | exact gs_at | (rw [gs_ne (by omega)]; (first | assumption | exact gs_at | (rw [gs_ne (by omega)]; (first | assumption | exact gs_at | (rw [gs_ne (by omega)]; (first | assumption | exact gs_at | (rw [gs_ne (by omega)]; (first | assumption | exact gs_at))))))))) rfl ?_
      refine w_iload dX7_worst_39 rfl ?_
      refine wS2u dX7_worst_41 lk_X7_137 rfl (c_atN (f := fun i => nI (T2 2 i)) hJ.2.2.2.1 (by omega) (by decide)) (Nat.le_of_ble_eq_true rfl) (Nat.le_of_ble_eq_true rfl) (Nat.le_of_ble_eq_true rfl) (Nat.le_of_ble_eq_true rfl) ?_
      refine w_iload_n dX7_worst_44 rfl ?_
      refine w_icmp_le (tgt := 64) dX7_worst_45 (by decide) (fun c_45 => ?_) (fun c_45 => ?_)
      · try simp (disch := omega) only [nI_ltI, nI_leI, ge_iff_le, gt_iff_lt, Nat.not_lt, Nat.not_le] at c_45
        first | refine w_iinc_4 dX7_worst_64 (nI_inc _) rfl ?_ | refine w_iinc_4 dX7_worst_64 rfl rfl ?_
        refine w_goto (tgt := 20) dX7_worst_67 (by decide) ?_
        have hN := ih (i + 1) (by omega) (by omega)
        first
          | (rw [(wstV_f hBJ (Int32.not_lt.mpr c_45)).1, (wstV_f hBJ (Int32.not_lt.mpr c_45)).2] at hN; exact hN)
          | (rw [(wstV_t hBJ (Int32.not_le.mp c_45)).1, (wstV_t hBJ (Int32.not_le.mp c_45)).2] at hN; exact hN)
      · try simp (disch := omega) only [nI_ltI, nI_leI, ge_iff_le, gt_iff_lt, Nat.not_lt, Nat.not_le] at c_45
        refine w_aload_n dX7_worst_48 rfl ?_
        refine w_getf dX7_worst_49 fl_X7_41 (by first | assumption | exact gs_at | (rw [gs_ne (by omega)]; (first | assumption | exact gs_at | (rw [gs_ne (by omega)]; (first | assumption | exact gs_at | (rw [gs_ne (by omega)]; (first | assumption | exact gs_at | (rw [gs_ne (by omega)]; (first | assumption | exact gs_at))))))))) rfl ?_
        refine w_getf dX7_worst_52 fl_X7_144 (by first | assumption | exact gs_at | (rw [gs_ne (by omega)]; (first | assumption | exact gs_at | (rw [gs_ne (by omega)]; (first | assumption | exact gs_at | (rw [gs_ne (by omega)]; (first | assumption | exact gs_at | (rw [gs_ne (by omega)]; (first | assumption | exact gs_at))))))))) rfl ?_
        refine w_iload dX7_worst_55 rfl ?_
        refine wS2u dX7_worst_57 lk_X7_137 rfl (c_atN (f := fun i => nI (T2 2 i)) hJ.2.2.2.1 (by omega) (by decide)) (Nat.le_of_ble_eq_true rfl) (Nat.le_of_ble_eq_true rfl) (Nat.le_of_ble_eq_true rfl) (Nat.le_of_ble_eq_true rfl) ?_
        refine w_istore_3 dX7_worst_60 rfl ?_
        refine w_iload dX7_worst_61 rfl ?_
        refine w_istore_2 dX7_worst_63 rfl ?_
        first | refine w_iinc_4 dX7_worst_64 (nI_inc _) rfl ?_ | refine w_iinc_4 dX7_worst_64 rfl rfl ?_
        refine w_goto (tgt := 20) dX7_worst_67 (by decide) ?_
        have hN := ih (i + 1) (by omega) (by omega)
        first
          | (rw [(wstV_f hBJ (Int32.not_lt.mpr c_45)).1, (wstV_f hBJ (Int32.not_lt.mpr c_45)).2] at hN; exact hN)
          | (rw [(wstV_t hBJ (Int32.not_le.mp c_45)).1, (wstV_t hBJ (Int32.not_le.mp c_45)).2] at hN; exact hN)
theorem c_worst {E : EV} {G : AH} {B tn im nw rm ru sp : Nat} {f : Nat → Nat} {wb sd si : Int32} {T Ti : ST} {D Di : LD} {P : Nat → ST × Int32} {x : Int32} (hH : HI G B tn f wb T sd D im Ti si Di nw rm P ru sp)  : Ct E 10 1 6 kX7_worst [.ref B, .int x] G (fun o G1 => XOut ["java/lang/IllegalArgumentException"] (xk1 (okN 0 (nI 400) x)) (wstV (adv D 0 T sd (ix x)).1 (T 12 0)) o ∧ HI G1 B tn f wb T sd D im Ti si Di nw rm P ru sp ∧ FH G G1 B) := by
  obtain ⟨hB, ⟨htn, him, hnw, hrm⟩, hT, hRd, ⟨hI, hBd⟩, hS, ⟨hL, hD, hSp, hrs⟩, ⟨hIi, hBi, hLi, hDi⟩, ⟨hPa, hPi⟩, ⟨⟨we, hwe⟩, hSm, hSv, ⟨od, hod⟩⟩⟩ := id hH; obtain ⟨⟨_, _, _, _, _, _, gS0⟩, _⟩ := id hS; have hI0 := hI.1; have hIi0 := hIi.1
  obtain ⟨i0, i1, i2, i3, i4, i5, i6, i7, i8, i9, i10, i11, i12, i13⟩ := id hI
  obtain ⟨b0, b1, b2_, b3, b4, b5, b6, b7, b8, b9, b10, b11, b12, b13, b14, b15, b16, b17, b18, b19⟩ := id hBd
  have hls := HI.ls hH
  have hla : ru + 6 ≤ B + 9 ∨ B + 9 + 14 ≤ ru := by omega
  have hlb : ru + 6 ≤ B + 23 ∨ B + 23 + 14 ≤ ru := by omega
  refine Ct.intro rfl (by decide) [.ref B, .int x, .float 0, .float 0, .float 0] (by simp [Value.category]) (Nat.le_of_ble_eq_true rfl) rfl ?_
  refine w_iload_n dX7_worst_0 rfl ?_
  refine w_iconst (v := nI 0) dX7_worst_1 (by decide) ?_
  refine w_sipush (v := nI 400) dX7_worst_2 (by decide) ?_
  refine wS3k dX7_worst_5 lk_X7_220 rfl rfl (c_checkNumber) (Nat.le_of_ble_eq_true rfl) (Nat.le_of_ble_eq_true rfl) (Nat.le_of_ble_eq_true rfl) (Nat.le_of_ble_eq_true rfl) ((fun h9 n9 h8 => ⟨XOut.no (j := 0) (by rw [xk1, if_neg h9]) rfl, hH.x, FH.x h8⟩)) (fun ok_5 => ?_)
  obtain ⟨j, hj8, hj9, rfl⟩ := in_L (by omega) (by omega) ok_5
  refine w_aload_n dX7_worst_8 rfl ?_
  refine w_iload_n dX7_worst_9 rfl ?_
  refine wV1d dX7_worst_10 lk_X7_239 rfl (by first | assumption | exact gs_at | (rw [gs_ne (by omega)]; (first | assumption | exact gs_at | (rw [gs_ne (by omega)]; (first | assumption | exact gs_at | (rw [gs_ne (by omega)]; (first | assumption | exact gs_at | (rw [gs_ne (by omega)]; (first | assumption | exact gs_at))))))))) rfl rfl (c_goAhead hH hj9) (Nat.le_of_ble_eq_true rfl) (Nat.le_of_ble_eq_true rfl) (Nat.le_of_ble_eq_true rfl) (Nat.le_of_ble_eq_true rfl) (fun G h_10 => ?_)
  have hS9 := h_10
  obtain ⟨hH, hJ, hBJ, hFH⟩ := id hS9; have hJ0 := hJ.1
  obtain ⟨hB, ⟨htn, him, hnw, hrm⟩, hT, hRd, ⟨hI, hBd⟩, hS, ⟨hL, hD, hSp, hrs⟩, ⟨hIi, hBi, hLi, hDi⟩, ⟨hPa, hPi⟩, ⟨⟨we, hwe⟩, hSm, hSv, ⟨od, hod⟩⟩⟩ := id hH; obtain ⟨⟨_, _, _, _, _, _, gS0⟩, _⟩ := id hS; have hI0 := hI.1; have hIi0 := hIi.1
  have hJ0 := hJ.1
  have h12 := adv_0 D 0 T sd j
  refine w_iconst (v := (-1)) dX7_worst_13 (by decide) ?_
  refine w_istore_2 dX7_worst_14 rfl ?_
  refine w_iconst (v := (-1)) dX7_worst_15 (by decide) ?_
  refine w_istore_3 dX7_worst_16 rfl ?_
  refine w_iconst (v := nI 0) dX7_worst_17 (by decide) ?_
  refine w_istore_4 dX7_worst_18 rfl ?_
  exact lp_worst hS9 (by rw [h12]; exact ⟨XOut.ok (by rw [xk1, if_pos ok_5]) (by rw [ix_nI (by omega)]), hH, hFH⟩) ((adv D 0 T sd j).1 12 0 + 1) 0 (by omega) (by omega)
def crwN (T : ST) : Nat → Nat | 0 => 0 | r + 1 => max (crwN T r) (cntN 12 (bitN (fun i => T 1 i = r) (T 12 0)))
theorem crwN_le (T : ST) : ∀ r, crwN T r ≤ 12
  | 0 => by rw [crwN]; omega
  | r + 1 => by have := crwN_le T r; have := cntN_le (bitN (fun i => T 1 i = r) (T 12 0)) 12; rw [crwN]; omega
theorem lp_crowd {E : EV} {Q : OC → AH → Prop} {G0 G : AH} {B tn im nw rm ru sp : Nat} {f : Nat → Nat} {wb sd si : Int32} {T Ti : ST} {D Di : LD} {P : Nat → ST × Int32} {x : Int32} {T2 : ST} {s2 : Int32} (hS9 : HSc G0 G B tn f wb T sd D im Ti si Di nw rm P ru sp T2 s2) (hQ : Q (.inl (some (.int (nI (crwN T2 6))))) G) : ∀ (k i : Nat), 6 - i < k → i ≤ 6 → Wp E 10 1 6 kX7_crowd Q G (1, 6) 17 [.ref B, .int x, .int (nI (crwN T2 i)), .int (nI i)] [] := by
  intro k
  induction k with
  | zero => intro i h; exact absurd h (by omega)
  | succ k ih =>
    intro i hk hi
    obtain ⟨hH, hJ, hBJ, hFH⟩ := id hS9; have hJ0 := hJ.1
    obtain ⟨hB, ⟨htn, him, hnw, hrm⟩, hT, hRd, ⟨hI, hBd⟩, hS, ⟨hL, hD, hSp, hrs⟩, ⟨hIi, hBi, hLi, hDi⟩, ⟨hPa, hPi⟩, ⟨⟨we, hwe⟩, hSm, hSv, ⟨od, hod⟩⟩⟩ := id hH; obtain ⟨⟨_, _, _, _, _, _, gS0⟩, _⟩ := id hS; have hI0 := hI.1; have hIi0 := hIi.1
    have hJ0 := hJ.1
    obtain ⟨q0, q1, q2, q3, q4, q5, q6, q7, q8, q9, q10, q11, q12, q13, q14, q15, q16, q17, q18, q19⟩ := id hBJ
    refine w_iload_n dX7_crowd_17 rfl ?_
    refine w_bipush (v := nI 6) dX7_crowd_18 (by decide) ?_
    refine w_icmp_ge (tgt := 52) dX7_crowd_20 (by decide) (fun c_20 => ?_) (fun c_20 => ?_)
    · try simp (disch := omega) only [nI_b2, Decidable.not_not, nI_ltI, nI_leI, nI_eq, ge_iff_le, gt_iff_lt, ne_eq, Nat.not_lt, Nat.not_le] at c_20
      refine w_iload_n dX7_crowd_52 rfl ?_
      refine w_iret dX7_crowd_53 rfl (Nat.le_of_ble_eq_true rfl) (Nat.le_of_ble_eq_true rfl) ?_
      have e6 : i = 6 := by omega
      subst e6
      exact hQ
    · try simp (disch := omega) only [nI_b2, Decidable.not_not, nI_ltI, nI_leI, nI_eq, ge_iff_le, gt_iff_lt, ne_eq, Nat.not_lt, Nat.not_le] at c_20
      have hcr := crwN_le T2 i
      have hcn := cntN_le (bitN (fun j => T2 1 j = i) (T2 12 0)) 12
      refine w_iload_n dX7_crowd_23 rfl ?_
      refine w_aload_n dX7_crowd_24 rfl ?_
      refine w_getf dX7_crowd_25 fl_X7_41 (by first | assumption | exact gs_at | (rw [gs_ne (by omega)]; (first | assumption | exact gs_at | (rw [gs_ne (by omega)]; (first | assumption | exact gs_at | (rw [gs_ne (by omega)]; (first | assumption | exact gs_at | (rw [gs_ne (by omega)]; (first | assumption | exact gs_at))))))))) rfl ?_
      refine w_aload_n dX7_crowd_28 rfl ?_
      refine w_getf dX7_crowd_29 fl_X7_41 (by first | assumption | exact gs_at | (rw [gs_ne (by omega)]; (first | assumption | exact gs_at | (rw [gs_ne (by omega)]; (first | assumption | exact gs_at | (rw [gs_ne (by omega)]; (first | assumption | exact gs_at | (rw [gs_ne (by omega)]; (first | assumption | exact gs_at))))))))) rfl ?_
      refine w_getf dX7_crowd_32 fl_X7_134 (by first | assumption | exact gs_at | (rw [gs_ne (by omega)]; (first | assumption | exact gs_at | (rw [gs_ne (by omega)]; (first | assumption | exact gs_at | (rw [gs_ne (by omega)]; (first | assumption | exact gs_at | (rw [gs_ne (by omega)]; (first | assumption | exact gs_at))))))))) rfl ?_
      refine w_iload_n dX7_crowd_35 rfl ?_
      refine wV2u dX7_crowd_36 lk_X7_179 rfl (by first | assumption | exact gs_at | (rw [gs_ne (by omega)]; (first | assumption | exact gs_at | (rw [gs_ne (by omega)]; (first | assumption | exact gs_at | (rw [gs_ne (by omega)]; (first | assumption | exact gs_at | (rw [gs_ne (by omega)]; (first | assumption | exact gs_at))))))))) rfl rfl (c_itemsWith (f := fun i => T2 1 i) hJ hBJ hJ.2.2.1 (fun i => by have := q2 i; omega) (by omega)) (Nat.le_of_ble_eq_true rfl) (Nat.le_of_ble_eq_true rfl) (Nat.le_of_ble_eq_true rfl) (Nat.le_of_ble_eq_true rfl) ?_
      refine wJ1u dX7_crowd_39 lk_X7_227 rfl (c_bitCount (bitN_12 _ q0)) (Nat.le_of_ble_eq_true rfl) (Nat.le_of_ble_eq_true rfl) (Nat.le_of_ble_eq_true rfl) (Nat.le_of_ble_eq_true rfl) ?_
      refine wJ2u dX7_crowd_42 lk_X7_215 rfl (c_max (by omega) (by omega)) (Nat.le_of_ble_eq_true rfl) (Nat.le_of_ble_eq_true rfl) (Nat.le_of_ble_eq_true rfl) (Nat.le_of_ble_eq_true rfl) ?_
      refine w_istore_2 dX7_crowd_45 rfl ?_
      first | refine w_iinc_3 dX7_crowd_46 (nI_inc _) rfl ?_ | refine w_iinc_3 dX7_crowd_46 rfl rfl ?_
      refine w_goto (tgt := 17) dX7_crowd_49 (by decide) ?_
      exact ih (i + 1) (by omega) (by omega)
theorem c_crowd {E : EV} {G : AH} {B tn im nw rm ru sp : Nat} {f : Nat → Nat} {wb sd si : Int32} {T Ti : ST} {D Di : LD} {P : Nat → ST × Int32} {x : Int32} (hH : HI G B tn f wb T sd D im Ti si Di nw rm P ru sp)  : Ct E 10 1 6 kX7_crowd [.ref B, .int x] G (fun o G1 => XOut ["java/lang/IllegalArgumentException"] (xk1 (okN 0 (nI 400) x)) (nI (crwN (adv D 0 T sd (ix x)).1 6)) o ∧ HI G1 B tn f wb T sd D im Ti si Di nw rm P ru sp ∧ FH G G1 B) := by
  obtain ⟨hB, ⟨htn, him, hnw, hrm⟩, hT, hRd, ⟨hI, hBd⟩, hS, ⟨hL, hD, hSp, hrs⟩, ⟨hIi, hBi, hLi, hDi⟩, ⟨hPa, hPi⟩, ⟨⟨we, hwe⟩, hSm, hSv, ⟨od, hod⟩⟩⟩ := id hH; obtain ⟨⟨_, _, _, _, _, _, gS0⟩, _⟩ := id hS; have hI0 := hI.1; have hIi0 := hIi.1
  obtain ⟨i0, i1, i2, i3, i4, i5, i6, i7, i8, i9, i10, i11, i12, i13⟩ := id hI
  obtain ⟨b0, b1, b2_, b3, b4, b5, b6, b7, b8, b9, b10, b11, b12, b13, b14, b15, b16, b17, b18, b19⟩ := id hBd
  have hls := HI.ls hH
  have hla : ru + 6 ≤ B + 9 ∨ B + 9 + 14 ≤ ru := by omega
  have hlb : ru + 6 ≤ B + 23 ∨ B + 23 + 14 ≤ ru := by omega
  refine Ct.intro rfl (by decide) [.ref B, .int x, .float 0, .float 0] (by simp [Value.category]) (Nat.le_of_ble_eq_true rfl) rfl ?_
  refine w_iload_n dX7_crowd_0 rfl ?_
  refine w_iconst (v := nI 0) dX7_crowd_1 (by decide) ?_
  refine w_sipush (v := nI 400) dX7_crowd_2 (by decide) ?_
  refine wS3k dX7_crowd_5 lk_X7_220 rfl rfl (c_checkNumber) (Nat.le_of_ble_eq_true rfl) (Nat.le_of_ble_eq_true rfl) (Nat.le_of_ble_eq_true rfl) (Nat.le_of_ble_eq_true rfl) ((fun h9 n9 h8 => ⟨XOut.no (j := 0) (by rw [xk1, if_neg h9]) rfl, hH.x, FH.x h8⟩)) (fun ok_5 => ?_)
  obtain ⟨j, hj8, hj9, rfl⟩ := in_L (by omega) (by omega) ok_5
  refine w_aload_n dX7_crowd_8 rfl ?_
  refine w_iload_n dX7_crowd_9 rfl ?_
  refine wV1d dX7_crowd_10 lk_X7_239 rfl (by first | assumption | exact gs_at | (rw [gs_ne (by omega)]; (first | assumption | exact gs_at | (rw [gs_ne (by omega)]; (first | assumption | exact gs_at | (rw [gs_ne (by omega)]; (first | assumption | exact gs_at | (rw [gs_ne (by omega)]; (first | assumption | exact gs_at))))))))) rfl rfl (c_goAhead hH hj9) (Nat.le_of_ble_eq_true rfl) (Nat.le_of_ble_eq_true rfl) (Nat.le_of_ble_eq_true rfl) (Nat.le_of_ble_eq_true rfl) (fun G h_10 => ?_)
  have hS9 := h_10
  obtain ⟨hH, hJ, hBJ, hFH⟩ := id hS9; have hJ0 := hJ.1
  obtain ⟨hB, ⟨htn, him, hnw, hrm⟩, hT, hRd, ⟨hI, hBd⟩, hS, ⟨hL, hD, hSp, hrs⟩, ⟨hIi, hBi, hLi, hDi⟩, ⟨hPa, hPi⟩, ⟨⟨we, hwe⟩, hSm, hSv, ⟨od, hod⟩⟩⟩ := id hH; obtain ⟨⟨_, _, _, _, _, _, gS0⟩, _⟩ := id hS; have hI0 := hI.1; have hIi0 := hIi.1
  have hJ0 := hJ.1
  have h12 := adv_0 D 0 T sd j
  refine w_iconst (v := nI 0) dX7_crowd_13 (by decide) ?_
  refine w_istore_2 dX7_crowd_14 rfl ?_
  refine w_iconst (v := nI 0) dX7_crowd_15 (by decide) ?_
  refine w_istore_3 dX7_crowd_16 rfl ?_
  exact lp_crowd hS9 ⟨XOut.ok (by rw [xk1, if_pos ok_5]) (by rw [ix_nI (by omega)]), hH, hFH⟩ 7 0 (by omega) (by omega)
theorem c_wearing {E : EV} {G : AH} {B tn im nw rm ru sp : Nat} {f : Nat → Nat} {wb sd si : Int32} {T Ti : ST} {D Di : LD} {P : Nat → ST × Int32} {x : Int32} (hH : HI G B tn f wb T sd D im Ti si Di nw rm P ru sp)  : Ct E 10 1 6 kX7_wearing [.ref B, .int x] G (fun o G1 => XOut ["java/lang/IndexOutOfBoundsException"] (xk1 (okI (T 12 0) x)) (nI ((adv D 0 T sd (leftN T)).1 2 (ix x)) - nI (T 2 (ix x))) o ∧ HI G1 B tn f wb T sd D im Ti si Di nw rm P ru sp ∧ FH G G1 B) := by
  obtain ⟨hB, ⟨htn, him, hnw, hrm⟩, hT, hRd, ⟨hI, hBd⟩, hS, ⟨hL, hD, hSp, hrs⟩, ⟨hIi, hBi, hLi, hDi⟩, ⟨hPa, hPi⟩, ⟨⟨we, hwe⟩, hSm, hSv, ⟨od, hod⟩⟩⟩ := id hH; obtain ⟨⟨_, _, _, _, _, _, gS0⟩, _⟩ := id hS; have hI0 := hI.1; have hIi0 := hIi.1
  obtain ⟨i0, i1, i2, i3, i4, i5, i6, i7, i8, i9, i10, i11, i12, i13⟩ := id hI
  obtain ⟨b0, b1, b2_, b3, b4, b5, b6, b7, b8, b9, b10, b11, b12, b13, b14, b15, b16, b17, b18, b19⟩ := id hBd
  have hls := HI.ls hH
  have hla : ru + 6 ≤ B + 9 ∨ B + 9 + 14 ≤ ru := by omega
  have hlb : ru + 6 ≤ B + 23 ∨ B + 23 + 14 ≤ ru := by omega
  refine Ct.intro rfl (by decide) [.ref B, .int x] (by simp [Value.category]) (Nat.le_of_ble_eq_true rfl) rfl ?_
  refine w_aload_n dX7_wearing_0 rfl ?_
  refine w_iload_n dX7_wearing_1 rfl ?_
  refine wV1k dX7_wearing_2 lk_X7_127 rfl (by first | assumption | exact gs_at | (rw [gs_ne (by omega)]; (first | assumption | exact gs_at | (rw [gs_ne (by omega)]; (first | assumption | exact gs_at | (rw [gs_ne (by omega)]; (first | assumption | exact gs_at | (rw [gs_ne (by omega)]; (first | assumption | exact gs_at))))))))) rfl rfl rfl (c_checkItem hB hI) (Nat.le_of_ble_eq_true rfl) (Nat.le_of_ble_eq_true rfl) (Nat.le_of_ble_eq_true rfl) (Nat.le_of_ble_eq_true rfl) ((fun h9 n9 h8 => ⟨XOut.no (j := 0) (by rw [xk1, if_neg h9]) rfl, hH.x, FH.x h8⟩)) (fun ok_2 => ?_)
  obtain ⟨i, hi9, rfl⟩ := in_N (by omega) ok_2
  refine w_aload_n dX7_wearing_5 rfl ?_
  refine w_aload_n dX7_wearing_6 rfl ?_
  refine w_getf dX7_wearing_7 fl_X7_37 (by first | assumption | exact gs_at | (rw [gs_ne (by omega)]; (first | assumption | exact gs_at | (rw [gs_ne (by omega)]; (first | assumption | exact gs_at | (rw [gs_ne (by omega)]; (first | assumption | exact gs_at | (rw [gs_ne (by omega)]; (first | assumption | exact gs_at))))))))) rfl ?_
  refine wV0u dX7_wearing_10 lk_X7_296 rfl (by first | assumption | exact gs_at | (rw [gs_ne (by omega)]; (first | assumption | exact gs_at | (rw [gs_ne (by omega)]; (first | assumption | exact gs_at | (rw [gs_ne (by omega)]; (first | assumption | exact gs_at | (rw [gs_ne (by omega)]; (first | assumption | exact gs_at))))))))) rfl rfl (c_daysLeft hI hBd) (Nat.le_of_ble_eq_true rfl) (Nat.le_of_ble_eq_true rfl) (Nat.le_of_ble_eq_true rfl) (Nat.le_of_ble_eq_true rfl) ?_
  refine wV1d dX7_wearing_13 lk_X7_239 rfl (by first | assumption | exact gs_at | (rw [gs_ne (by omega)]; (first | assumption | exact gs_at | (rw [gs_ne (by omega)]; (first | assumption | exact gs_at | (rw [gs_ne (by omega)]; (first | assumption | exact gs_at | (rw [gs_ne (by omega)]; (first | assumption | exact gs_at))))))))) rfl rfl (c_goAhead hH (show leftN T ≤ 400 from Nat.le_trans (Nat.sub_le _ _) (by decide))) (Nat.le_of_ble_eq_true rfl) (Nat.le_of_ble_eq_true rfl) (Nat.le_of_ble_eq_true rfl) (Nat.le_of_ble_eq_true rfl) (fun G h_13 => ?_)
  have hS9 := h_13
  obtain ⟨hH, hJ, hBJ, hFH⟩ := id hS9; have hJ0 := hJ.1
  obtain ⟨hB, ⟨htn, him, hnw, hrm⟩, hT, hRd, ⟨hI, hBd⟩, hS, ⟨hL, hD, hSp, hrs⟩, ⟨hIi, hBi, hLi, hDi⟩, ⟨hPa, hPi⟩, ⟨⟨we, hwe⟩, hSm, hSv, ⟨od, hod⟩⟩⟩ := id hH; obtain ⟨⟨_, _, _, _, _, _, gS0⟩, _⟩ := id hS; have hI0 := hI.1; have hIi0 := hIi.1
  have hJ0 := hJ.1
  obtain ⟨i0, i1, i2, i3, i4, i5, i6, i7, i8, i9, i10, i11, i12, i13⟩ := id hI
  refine w_aload_n dX7_wearing_16 rfl ?_
  refine w_getf dX7_wearing_17 fl_X7_41 (by first | assumption | exact gs_at | (rw [gs_ne (by omega)]; (first | assumption | exact gs_at | (rw [gs_ne (by omega)]; (first | assumption | exact gs_at | (rw [gs_ne (by omega)]; (first | assumption | exact gs_at | (rw [gs_ne (by omega)]; (first | assumption | exact gs_at))))))))) rfl ?_
  refine w_getf dX7_wearing_20 fl_X7_144 (by first | assumption | exact gs_at | (rw [gs_ne (by omega)]; (first | assumption | exact gs_at | (rw [gs_ne (by omega)]; (first | assumption | exact gs_at | (rw [gs_ne (by omega)]; (first | assumption | exact gs_at | (rw [gs_ne (by omega)]; (first | assumption | exact gs_at))))))))) rfl ?_
  refine w_iload_n dX7_wearing_23 rfl ?_
  refine wS2u dX7_wearing_24 lk_X7_137 rfl (c_atN (f := fun i => nI ((adv D 0 T sd (leftN T)).1 2 i)) hJ.2.2.2.1 (by omega) (by decide)) (Nat.le_of_ble_eq_true rfl) (Nat.le_of_ble_eq_true rfl) (Nat.le_of_ble_eq_true rfl) (Nat.le_of_ble_eq_true rfl) ?_
  refine w_aload_n dX7_wearing_27 rfl ?_
  refine w_getf dX7_wearing_28 fl_X7_37 (by first | assumption | exact gs_at | (rw [gs_ne (by omega)]; (first | assumption | exact gs_at | (rw [gs_ne (by omega)]; (first | assumption | exact gs_at | (rw [gs_ne (by omega)]; (first | assumption | exact gs_at | (rw [gs_ne (by omega)]; (first | assumption | exact gs_at))))))))) rfl ?_
  refine w_getf dX7_wearing_31 fl_X7_144 (by first | assumption | exact gs_at | (rw [gs_ne (by omega)]; (first | assumption | exact gs_at | (rw [gs_ne (by omega)]; (first | assumption | exact gs_at | (rw [gs_ne (by omega)]; (first | assumption | exact gs_at | (rw [gs_ne (by omega)]; (first | assumption | exact gs_at))))))))) rfl ?_
  refine w_iload_n dX7_wearing_34 rfl ?_
  refine wS2u dX7_wearing_35 lk_X7_137 rfl (c_atN (f := fun i => nI (T 2 i)) i3 (by omega) (by decide)) (Nat.le_of_ble_eq_true rfl) (Nat.le_of_ble_eq_true rfl) (Nat.le_of_ble_eq_true rfl) (Nat.le_of_ble_eq_true rfl) ?_
  refine w_isub dX7_wearing_38 ?_
  refine w_iret dX7_wearing_39 rfl (Nat.le_of_ble_eq_true rfl) (Nat.le_of_ble_eq_true rfl) ?_
  refine ⟨XOut.ok (by rw [xk1, if_pos ok_2]) ?_, hH, hFH⟩
  rw [ix_nI (by omega)]
theorem c_meets {E : EV} {G : AH} {B tn im nw rm ru sp : Nat} {f : Nat → Nat} {wb sd si : Int32} {T Ti : ST} {D Di : LD} {P : Nat → ST × Int32} {x y : Int32} (hH : HI G B tn f wb T sd D im Ti si Di nw rm P ru sp)  : Ct E 10 3 18 kX7_meets [.ref B, .int x, .int y] G (fun o G1 => XOut ["java/lang/IndexOutOfBoundsException", "java/lang/IllegalArgumentException"] (xk2 (okI (T 12 0) x ∧ okI (T 12 0) y) (¬ x = y)) (mtV D T sd (ix x) (ix y)) o ∧ HI G1 B tn f wb T sd D im Ti si Di nw rm P ru sp ∧ FH G G1 B) := by
  obtain ⟨hB, ⟨htn, him, hnw, hrm⟩, hT, hRd, ⟨hI, hBd⟩, hS, ⟨hL, hD, hSp, hrs⟩, ⟨hIi, hBi, hLi, hDi⟩, ⟨hPa, hPi⟩, ⟨⟨we, hwe⟩, hSm, hSv, ⟨od, hod⟩⟩⟩ := id hH; obtain ⟨⟨_, _, _, _, _, _, gS0⟩, _⟩ := id hS; have hI0 := hI.1; have hIi0 := hIi.1
  obtain ⟨i0, i1, i2, i3, i4, i5, i6, i7, i8, i9, i10, i11, i12, i13⟩ := id hI
  obtain ⟨b0, b1, b2_, b3, b4, b5, b6, b7, b8, b9, b10, b11, b12, b13, b14, b15, b16, b17, b18, b19⟩ := id hBd
  have hls := HI.ls hH
  have hla : ru + 6 ≤ B + 9 ∨ B + 9 + 14 ≤ ru := by omega
  have hlb : ru + 6 ≤ B + 23 ∨ B + 23 + 14 ≤ ru := by omega
  refine Ct.intro rfl (by decide) [.ref B, .int x, .int y] (by simp [Value.category]) (Nat.le_of_ble_eq_true rfl) rfl ?_
  refine w_aload_n dX7_meets_0 rfl ?_
  refine w_iload_n dX7_meets_1 rfl ?_
  refine wV1k dX7_meets_2 lk_X7_127 rfl (by first | assumption | exact gs_at | (rw [gs_ne (by omega)]; (first | assumption | exact gs_at | (rw [gs_ne (by omega)]; (first | assumption | exact gs_at | (rw [gs_ne (by omega)]; (first | assumption | exact gs_at | (rw [gs_ne (by omega)]; (first | assumption | exact gs_at))))))))) rfl rfl rfl (c_checkItem hB hI) (Nat.le_of_ble_eq_true rfl) (Nat.le_of_ble_eq_true rfl) (Nat.le_of_ble_eq_true rfl) (Nat.le_of_ble_eq_true rfl) ((fun h9 n9 h8 => ⟨XOut.no (j := 0) (by rw [xk2, if_neg (fun h => h9 h.1)]) rfl, hH.x, FH.x h8⟩)) (fun ok_2 => ?_)
  obtain ⟨i, hi9, rfl⟩ := in_N (by omega) ok_2
  refine w_aload_n dX7_meets_5 rfl ?_
  refine w_iload_n dX7_meets_6 rfl ?_
  refine wV1k dX7_meets_7 lk_X7_127 rfl (by first | assumption | exact gs_at | (rw [gs_ne (by omega)]; (first | assumption | exact gs_at | (rw [gs_ne (by omega)]; (first | assumption | exact gs_at | (rw [gs_ne (by omega)]; (first | assumption | exact gs_at | (rw [gs_ne (by omega)]; (first | assumption | exact gs_at))))))))) rfl rfl rfl (c_checkItem hB hI) (Nat.le_of_ble_eq_true rfl) (Nat.le_of_ble_eq_true rfl) (Nat.le_of_ble_eq_true rfl) (Nat.le_of_ble_eq_true rfl) ((fun h9 n9 h8 => ⟨XOut.no (j := 0) (by rw [xk2, if_neg (fun h => h9 h.2)]) rfl, hH.x, FH.x h8⟩)) (fun ok_7 => ?_)
  obtain ⟨j, hj9, rfl⟩ := in_N (by omega) ok_7
  refine w_iload_n dX7_meets_10 rfl ?_
  refine w_iload_n dX7_meets_11 rfl ?_
  refine w_icmp_ne (tgt := 26) dX7_meets_12 (by decide) (fun c_12 => ?_) (fun c_12 => ?_)
  · skip
    refine w_aload_n dX7_meets_26 rfl ?_
    refine w_iload_n dX7_meets_27 rfl ?_
    refine w_iload_n dX7_meets_28 rfl ?_
    refine wV2i dX7_meets_29 lk_X7_301 rfl (by first | assumption | exact gs_at | (rw [gs_ne (by omega)]; (first | assumption | exact gs_at | (rw [gs_ne (by omega)]; (first | assumption | exact gs_at | (rw [gs_ne (by omega)]; (first | assumption | exact gs_at | (rw [gs_ne (by omega)]; (first | assumption | exact gs_at))))))))) rfl rfl (c_firstMeeting hH (by omega) (by omega)) (Nat.le_of_ble_eq_true rfl) (Nat.le_of_ble_eq_true rfl) (Nat.le_of_ble_eq_true rfl) (Nat.le_of_ble_eq_true rfl) (fun r_29 G h_29 => ?_)
    obtain ⟨hr9, hH, hFH⟩ := h_29
    refine w_iret dX7_meets_32 rfl (Nat.le_of_ble_eq_true rfl) (Nat.le_of_ble_eq_true rfl) ?_
    refine ⟨XOut.ok (by rw [xk2, if_pos ⟨ok_2, ok_7⟩, if_pos c_12]) ?_, hH, hFH⟩
    rw [ix_nI (by omega), ix_nI (by omega)]
    exact hr9
  · skip
    exact w_throwW (i := 40) (names := ["java/lang/RuntimeException", "java/lang/Exception"]) rfl rfl (by decide +kernel) (by decide +kernel) u_745 u_19 at_iae rfl dX7_meets_15 dX7_meets_18 dX7_meets_19 dX7_meets_22 dX7_meets_25 rfl (by decide) (by decide) (Nat.le_of_ble_eq_true rfl) (Nat.le_of_ble_eq_true rfl) (fun n9 h9 => ⟨XOut.no (j := 1) (by rw [xk2, if_pos ⟨ok_2, ok_7⟩, if_neg (fun h => h c_12)]) rfl, hH.x, FH.x h9⟩)
theorem c_trial {E : EV} {G : AH} {B tn im nw rm ru sp : Nat} {f : Nat → Nat} {wb sd si : Int32} {T Ti : ST} {D Di : LD} {P : Nat → ST × Int32} {x : Int32} {ow : Nat} (how : ow < 2 ^ 30) (hH : HI G B tn f wb T sd D im Ti si Di nw rm P ru sp)  : Ct E 10 1 6 kX7_trial [.ref B, .int x, .int (nI ow)] G (fun o G1 => XOut ["java/lang/IllegalArgumentException"] (xk1 (okN 0 (nI 400) x)) (nI (if ow = 0 then sumN (T 12 0) ((adv D 1 T sd (ix x)).1 2) else sumN 2 ((adv D 1 T sd (ix x)).1 10))) o ∧ HI G1 B tn f wb T sd D im Ti si Di nw rm P ru sp ∧ FH G G1 B) := by
  obtain ⟨hB, ⟨htn, him, hnw, hrm⟩, hT, hRd, ⟨hI, hBd⟩, hS, ⟨hL, hD, hSp, hrs⟩, ⟨hIi, hBi, hLi, hDi⟩, ⟨hPa, hPi⟩, ⟨⟨we, hwe⟩, hSm, hSv, ⟨od, hod⟩⟩⟩ := id hH; obtain ⟨⟨_, _, _, _, _, _, gS0⟩, _⟩ := id hS; have hI0 := hI.1; have hIi0 := hIi.1
  obtain ⟨i0, i1, i2, i3, i4, i5, i6, i7, i8, i9, i10, i11, i12, i13⟩ := id hI
  obtain ⟨b0, b1, b2_, b3, b4, b5, b6, b7, b8, b9, b10, b11, b12, b13, b14, b15, b16, b17, b18, b19⟩ := id hBd
  have hls := HI.ls hH
  have hla : ru + 6 ≤ B + 9 ∨ B + 9 + 14 ≤ ru := by omega
  have hlb : ru + 6 ≤ B + 23 ∨ B + 23 + 14 ≤ ru := by omega
  refine Ct.intro rfl (by decide) [.ref B, .int x, .int (nI ow)] (by simp [Value.category]) (Nat.le_of_ble_eq_true rfl) rfl ?_
  refine w_iload_n dX7_trial_0 rfl ?_
  refine w_iconst (v := nI 0) dX7_trial_1 (by decide) ?_
  refine w_sipush (v := nI 400) dX7_trial_2 (by decide) ?_
  refine wS3k dX7_trial_5 lk_X7_220 rfl rfl (c_checkNumber) (Nat.le_of_ble_eq_true rfl) (Nat.le_of_ble_eq_true rfl) (Nat.le_of_ble_eq_true rfl) (Nat.le_of_ble_eq_true rfl) ((fun h9 n9 h8 => ⟨XOut.no (j := 0) (by rw [xk1, if_neg h9]) rfl, hH.x, FH.x h8⟩)) (fun ok_5 => ?_)
  obtain ⟨j, hj8, hj9, rfl⟩ := in_L (by omega) (by omega) ok_5
  refine w_aload_n dX7_trial_8 rfl ?_
  refine w_iload_n dX7_trial_9 rfl ?_
  refine w_aload_n dX7_trial_10 rfl ?_
  refine w_getf dX7_trial_11 fl_X7_37 (by first | assumption | exact gs_at | (rw [gs_ne (by omega)]; (first | assumption | exact gs_at | (rw [gs_ne (by omega)]; (first | assumption | exact gs_at | (rw [gs_ne (by omega)]; (first | assumption | exact gs_at | (rw [gs_ne (by omega)]; (first | assumption | exact gs_at))))))))) rfl ?_
  refine w_getf dX7_trial_14 fl_X7_326 (by first | assumption | exact gs_at | (rw [gs_ne (by omega)]; (first | assumption | exact gs_at | (rw [gs_ne (by omega)]; (first | assumption | exact gs_at | (rw [gs_ne (by omega)]; (first | assumption | exact gs_at | (rw [gs_ne (by omega)]; (first | assumption | exact gs_at))))))))) rfl ?_
  refine wV2d dX7_trial_17 lk_X7_329 rfl (by first | assumption | exact gs_at | (rw [gs_ne (by omega)]; (first | assumption | exact gs_at | (rw [gs_ne (by omega)]; (first | assumption | exact gs_at | (rw [gs_ne (by omega)]; (first | assumption | exact gs_at | (rw [gs_ne (by omega)]; (first | assumption | exact gs_at))))))))) rfl rfl (c_tryDays hH hj9) (Nat.le_of_ble_eq_true rfl) (Nat.le_of_ble_eq_true rfl) (Nat.le_of_ble_eq_true rfl) (Nat.le_of_ble_eq_true rfl) (fun G h_17 => ?_)
  have hS9 := h_17
  obtain ⟨hH, hJ, hBJ, hFH⟩ := id hS9; have hJ0 := hJ.1
  obtain ⟨hB, ⟨htn, him, hnw, hrm⟩, hT, hRd, ⟨hI, hBd⟩, hS, ⟨hL, hD, hSp, hrs⟩, ⟨hIi, hBi, hLi, hDi⟩, ⟨hPa, hPi⟩, ⟨⟨we, hwe⟩, hSm, hSv, ⟨od, hod⟩⟩⟩ := id hH; obtain ⟨⟨_, _, _, _, _, _, gS0⟩, _⟩ := id hS; have hI0 := hI.1; have hIi0 := hIi.1
  have hJ0 := hJ.1
  have h12 := adv_0 D 1 T sd j
  have how9 : ow < 2 ^ 30 := how
  refine w_iload_n dX7_trial_20 rfl ?_
  refine w_ifN_eq (tgt := 38) dX7_trial_21 (by decide) (fun c_21 => ?_) (fun c_21 => ?_)
  · try simp (disch := omega) only [nI_b2, Decidable.not_not, nI_ltI, nI_leI, nI_eq, ge_iff_le, gt_iff_lt, ne_eq, Nat.not_lt, Nat.not_le] at c_21
    refine w_aload_n dX7_trial_38 rfl ?_
    refine w_getf dX7_trial_39 fl_X7_41 (by first | assumption | exact gs_at | (rw [gs_ne (by omega)]; (first | assumption | exact gs_at | (rw [gs_ne (by omega)]; (first | assumption | exact gs_at | (rw [gs_ne (by omega)]; (first | assumption | exact gs_at | (rw [gs_ne (by omega)]; (first | assumption | exact gs_at))))))))) rfl ?_
    refine w_getf dX7_trial_42 fl_X7_144 (by first | assumption | exact gs_at | (rw [gs_ne (by omega)]; (first | assumption | exact gs_at | (rw [gs_ne (by omega)]; (first | assumption | exact gs_at | (rw [gs_ne (by omega)]; (first | assumption | exact gs_at | (rw [gs_ne (by omega)]; (first | assumption | exact gs_at))))))))) rfl ?_
    refine w_aload_n dX7_trial_45 rfl ?_
    refine w_getf dX7_trial_46 fl_X7_41 (by first | assumption | exact gs_at | (rw [gs_ne (by omega)]; (first | assumption | exact gs_at | (rw [gs_ne (by omega)]; (first | assumption | exact gs_at | (rw [gs_ne (by omega)]; (first | assumption | exact gs_at | (rw [gs_ne (by omega)]; (first | assumption | exact gs_at))))))))) rfl ?_
    refine w_getf dX7_trial_49 fl_X7_242 (by first | assumption | exact gs_at | (rw [gs_ne (by omega)]; (first | assumption | exact gs_at | (rw [gs_ne (by omega)]; (first | assumption | exact gs_at | (rw [gs_ne (by omega)]; (first | assumption | exact gs_at | (rw [gs_ne (by omega)]; (first | assumption | exact gs_at))))))))) rfl ?_
    refine wS2u dX7_trial_52 lk_X7_304 rfl (c_total (f := (adv D 1 T sd j).1 2) hJ.2.2.2.1 hBJ.1 (by decide)) (Nat.le_of_ble_eq_true rfl) (Nat.le_of_ble_eq_true rfl) (Nat.le_of_ble_eq_true rfl) (Nat.le_of_ble_eq_true rfl) ?_
    refine w_iret dX7_trial_55 rfl (Nat.le_of_ble_eq_true rfl) (Nat.le_of_ble_eq_true rfl) ?_
    refine ⟨XOut.ok (by rw [xk1, if_pos ok_5]) ?_, hH, hFH⟩
    rw [ix_nI (by omega)]
    first
      | (rw [if_pos (by omega), h12]; done)
      | (rw [if_neg (by omega)]; done)
  · try simp (disch := omega) only [nI_b2, Decidable.not_not, nI_ltI, nI_leI, nI_eq, ge_iff_le, gt_iff_lt, ne_eq, Nat.not_lt, Nat.not_le] at c_21
    refine w_aload_n dX7_trial_24 rfl ?_
    refine w_getf dX7_trial_25 fl_X7_41 (by first | assumption | exact gs_at | (rw [gs_ne (by omega)]; (first | assumption | exact gs_at | (rw [gs_ne (by omega)]; (first | assumption | exact gs_at | (rw [gs_ne (by omega)]; (first | assumption | exact gs_at | (rw [gs_ne (by omega)]; (first | assumption | exact gs_at))))))))) rfl ?_
    refine w_getf dX7_trial_28 fl_X7_188 (by first | assumption | exact gs_at | (rw [gs_ne (by omega)]; (first | assumption | exact gs_at | (rw [gs_ne (by omega)]; (first | assumption | exact gs_at | (rw [gs_ne (by omega)]; (first | assumption | exact gs_at | (rw [gs_ne (by omega)]; (first | assumption | exact gs_at))))))))) rfl ?_
    refine w_iconst (v := nI 2) dX7_trial_31 (by decide) ?_
    refine wS2u dX7_trial_32 lk_X7_304 rfl (c_total (f := (adv D 1 T sd j).1 10) hJ.2.2.2.2.2.2.2.2.2.2.2.1 (by decide) (by decide)) (Nat.le_of_ble_eq_true rfl) (Nat.le_of_ble_eq_true rfl) (Nat.le_of_ble_eq_true rfl) (Nat.le_of_ble_eq_true rfl) ?_
    refine w_goto (tgt := 55) dX7_trial_35 (by decide) ?_
    refine w_iret dX7_trial_55 rfl (Nat.le_of_ble_eq_true rfl) (Nat.le_of_ble_eq_true rfl) ?_
    refine ⟨XOut.ok (by rw [xk1, if_pos ok_5]) ?_, hH, hFH⟩
    rw [ix_nI (by omega)]
    first
      | (rw [if_pos (by omega), h12]; done)
      | (rw [if_neg (by omega)]; done)
