/-! spans, visits, the log, the image -/
def wrS (D : LD) (T : ST) (n s : Nat) : Nat := sumN (T 12 0) ((adv D 1 T (nI s) n).1 2)
def spnN (D : LD) (T : ST) (n mo : Nat) : Nat → Nat | 0 => wrS D T n 1 | k + 1 => if mo = 0 then min (spnN D T n mo k) (wrS D T n (k + 2)) else max (spnN D T n mo k) (wrS D T n (k + 2))
theorem wrS_le {D : LD} {T : ST} (hB : Bd T) (n s : Nat) : wrS D T n s ≤ 1188 := by
  have h := sumN_le (f := (adv D 1 T (nI s) n).1 2) (c := 99) (fun i => (hB.adv n).2.2.2.1 i) (T 12 0)
  have := hB.1
  unfold wrS
  omega
theorem spnN_le {D : LD} {T : ST} (hB : Bd T) (n mo : Nat) : ∀ k, spnN D T n mo k ≤ 1188
  | 0 => wrS_le hB n 1
  | k + 1 => by have := spnN_le (D := D) hB n mo k; have := wrS_le (D := D) hB n (k + 2); rw [spnN]; split <;> omega
theorem lp_span {E : EV} {Q : OC → AH → Prop} {G0 : AH} {B tn im nw rm ru sp : Nat} {f : Nat → Nat} {wb sd si : Int32} {T Ti : ST} {D Di : LD} {P : Nat → ST × Int32} {n mo : Nat} (hn : n ≤ 400) (hmo : mo < 2 ^ 30) (hQ : ∀ G1, HI G1 B tn f wb T sd D im Ti si Di nw rm P ru sp → FH G0 G1 B → Q (.inl (some (.int (nI (spnN D T n mo 5))))) G1) : ∀ (k i : Nat) (G : AH) (z : Value), 7 - i < k → i ≤ 7 → 2 ≤ i → HI G B tn f wb T sd D im Ti si Di nw rm P ru sp → FH G0 G B → Wp E 10 1 6 kX7_span Q G (1, 6) 35 [.ref B, .int (nI n), .int (nI mo), .int (nI (spnN D T n mo (i - 2))), .int (nI i), z] [] := by
  intro k
  induction k with
  | zero => intro i G z h; exact absurd h (by omega)
  | succ k ih =>
    intro i G z hk hi hi2 hH hFH
    obtain ⟨hB, ⟨htn, him, hnw, hrm⟩, hT, hRd, ⟨hI, hBd⟩, hS, ⟨hL, hD, hSp, hrs⟩, ⟨hIi, hBi, hLi, hDi⟩, ⟨hPa, hPi⟩, ⟨⟨we, hwe⟩, hSm, hSv, ⟨od, hod⟩⟩⟩ := id hH; obtain ⟨⟨_, _, _, _, _, _, gS0⟩, _⟩ := id hS; have hI0 := hI.1; have hIi0 := hIi.1
    obtain ⟨b0, b1, b2_, b3, b4, b5, b6, b7, b8, b9, b10, b11, b12, b13, b14, b15, b16, b17, b18, b19⟩ := id hBd
    have hw1 := wrS_le (D := D) hBd n i; have hw2 := spnN_le (D := D) hBd n mo (i - 2)
    refine w_iload dX7_span_35 rfl ?_
    refine w_bipush (v := nI 6) dX7_span_37 (by decide) ?_
    refine w_icmp_gt (tgt := 94) dX7_span_39 (by decide) (fun c_39 => ?_) (fun c_39 => ?_)
    · try simp (disch := omega) only [nI_b2, Decidable.not_not, nI_ltI, nI_leI, nI_eq, ge_iff_le, gt_iff_lt, ne_eq, Nat.not_lt, Nat.not_le] at c_39
      refine w_iload_n dX7_span_94 rfl ?_
      refine w_iret dX7_span_95 rfl (Nat.le_of_ble_eq_true rfl) (Nat.le_of_ble_eq_true rfl) ?_
      have e : i = 7 := by omega
      subst e
      exact hQ G hH hFH
    · try simp (disch := omega) only [nI_b2, Decidable.not_not, nI_ltI, nI_leI, nI_eq, ge_iff_le, gt_iff_lt, ne_eq, Nat.not_lt, Nat.not_le] at c_39
      refine w_aload_n dX7_span_42 rfl ?_
      refine w_iload_n dX7_span_43 rfl ?_
      refine w_iload dX7_span_44 rfl ?_
      refine wV2d dX7_span_46 lk_X7_329 rfl (by first | assumption | exact gs_at | (rw [gs_ne (by omega)]; (first | assumption | exact gs_at | (rw [gs_ne (by omega)]; (first | assumption | exact gs_at | (rw [gs_ne (by omega)]; (first | assumption | exact gs_at | (rw [gs_ne (by omega)]; (first | assumption | exact gs_at))))))))) rfl rfl (c_tryDays hH hn) (Nat.le_of_ble_eq_true rfl) (Nat.le_of_ble_eq_true rfl) (Nat.le_of_ble_eq_true rfl) (Nat.le_of_ble_eq_true rfl) (fun G h_46 => ?_)
      have hS9 := h_46
      obtain ⟨hH, hJ, hBJ, hFH1⟩ := id hS9; have hJ0 := hJ.1
      obtain ⟨hB, ⟨htn, him, hnw, hrm⟩, hT, hRd, ⟨hI, hBd⟩, hS, ⟨hL, hD, hSp, hrs⟩, ⟨hIi, hBi, hLi, hDi⟩, ⟨hPa, hPi⟩, ⟨⟨we, hwe⟩, hSm, hSv, ⟨od, hod⟩⟩⟩ := id hH; obtain ⟨⟨_, _, _, _, _, _, gS0⟩, _⟩ := id hS; have hI0 := hI.1; have hIi0 := hIi.1
      have hJ0 := hJ.1
      have hFH := hFH.tr hFH1
      have h12 := adv_0 D 1 T (nI i) n
      refine w_aload_n dX7_span_49 rfl ?_
      refine w_getf dX7_span_50 fl_X7_41 (by first | assumption | exact gs_at | (rw [gs_ne (by omega)]; (first | assumption | exact gs_at | (rw [gs_ne (by omega)]; (first | assumption | exact gs_at | (rw [gs_ne (by omega)]; (first | assumption | exact gs_at | (rw [gs_ne (by omega)]; (first | assumption | exact gs_at))))))))) rfl ?_
      refine w_getf dX7_span_53 fl_X7_144 (by first | assumption | exact gs_at | (rw [gs_ne (by omega)]; (first | assumption | exact gs_at | (rw [gs_ne (by omega)]; (first | assumption | exact gs_at | (rw [gs_ne (by omega)]; (first | assumption | exact gs_at | (rw [gs_ne (by omega)]; (first | assumption | exact gs_at))))))))) rfl ?_
      refine w_aload_n dX7_span_56 rfl ?_
      refine w_getf dX7_span_57 fl_X7_41 (by first | assumption | exact gs_at | (rw [gs_ne (by omega)]; (first | assumption | exact gs_at | (rw [gs_ne (by omega)]; (first | assumption | exact gs_at | (rw [gs_ne (by omega)]; (first | assumption | exact gs_at | (rw [gs_ne (by omega)]; (first | assumption | exact gs_at))))))))) rfl ?_
      refine w_getf dX7_span_60 fl_X7_242 (by first | assumption | exact gs_at | (rw [gs_ne (by omega)]; (first | assumption | exact gs_at | (rw [gs_ne (by omega)]; (first | assumption | exact gs_at | (rw [gs_ne (by omega)]; (first | assumption | exact gs_at | (rw [gs_ne (by omega)]; (first | assumption | exact gs_at))))))))) rfl ?_
      refine wS2u dX7_span_63 lk_X7_304 rfl (c_total (f := (adv D 1 T (nI i) n).1 2) hJ.2.2.2.1 hBJ.1 (by decide)) (Nat.le_of_ble_eq_true rfl) (Nat.le_of_ble_eq_true rfl) (Nat.le_of_ble_eq_true rfl) (Nat.le_of_ble_eq_true rfl) ?_
      rw [h12]
      refine w_istore_5 dX7_span_66 rfl ?_
      refine w_iload_n dX7_span_68 rfl ?_
      refine w_ifN_eq (tgt := 81) dX7_span_69 (by decide) (fun c_69 => ?_) (fun c_69 => ?_)
      · try simp (disch := omega) only [nI_b2, Decidable.not_not, nI_ltI, nI_leI, nI_eq, ge_iff_le, gt_iff_lt, ne_eq, Nat.not_lt, Nat.not_le] at c_69
        refine w_iload_n dX7_span_81 rfl ?_
        refine w_iload dX7_span_82 rfl ?_
        refine wJ2u dX7_span_84 lk_X7_332 rfl (c_min (by omega) (show wrS D T n i < 2 ^ 31 by omega)) (Nat.le_of_ble_eq_true rfl) (Nat.le_of_ble_eq_true rfl) (Nat.le_of_ble_eq_true rfl) (Nat.le_of_ble_eq_true rfl) ?_
        refine w_istore_3 dX7_span_87 rfl ?_
        first | refine w_iinc_4 dX7_span_88 (nI_inc _) rfl ?_ | refine w_iinc_4 dX7_span_88 rfl rfl ?_
        refine w_goto (tgt := 35) dX7_span_91 (by decide) ?_
        have hN := ih (i + 1) G (.int (nI (wrS D T n i))) (by omega) (by omega) (by omega) hH hFH
        rw [show i + 1 - 2 = (i - 2) + 1 by omega, spnN, show i - 2 + 2 = i by omega] at hN
        first
          | (rw [if_pos (by omega)] at hN; exact hN)
          | (rw [if_neg (by omega)] at hN; exact hN)
      · try simp (disch := omega) only [nI_b2, Decidable.not_not, nI_ltI, nI_leI, nI_eq, ge_iff_le, gt_iff_lt, ne_eq, Nat.not_lt, Nat.not_le] at c_69
        refine w_iload_n dX7_span_72 rfl ?_
        refine w_iload dX7_span_73 rfl ?_
        refine wJ2u dX7_span_75 lk_X7_215 rfl (c_max (by omega) (show wrS D T n i < 2 ^ 31 by omega)) (Nat.le_of_ble_eq_true rfl) (Nat.le_of_ble_eq_true rfl) (Nat.le_of_ble_eq_true rfl) (Nat.le_of_ble_eq_true rfl) ?_
        refine w_goto (tgt := 87) dX7_span_78 (by decide) ?_
        refine w_istore_3 dX7_span_87 rfl ?_
        first | refine w_iinc_4 dX7_span_88 (nI_inc _) rfl ?_ | refine w_iinc_4 dX7_span_88 rfl rfl ?_
        refine w_goto (tgt := 35) dX7_span_91 (by decide) ?_
        have hN := ih (i + 1) G (.int (nI (wrS D T n i))) (by omega) (by omega) (by omega) hH hFH
        rw [show i + 1 - 2 = (i - 2) + 1 by omega, spnN, show i - 2 + 2 = i by omega] at hN
        first
          | (rw [if_pos (by omega)] at hN; exact hN)
          | (rw [if_neg (by omega)] at hN; exact hN)
theorem c_span {E : EV} {G : AH} {B tn im nw rm ru sp : Nat} {f : Nat → Nat} {wb sd si : Int32} {T Ti : ST} {D Di : LD} {P : Nat → ST × Int32} {x : Int32} {mo : Nat} (hH : HI G B tn f wb T sd D im Ti si Di nw rm P ru sp) (hmo : mo < 2 ^ 30) : Ct E 10 1 6 kX7_span [.ref B, .int x, .int (nI mo)] G (fun o G1 => XOut ["java/lang/IllegalArgumentException"] (xk1 (okN 0 (nI 400) x)) (nI (spnN D T (ix x) mo 5)) o ∧ HI G1 B tn f wb T sd D im Ti si Di nw rm P ru sp ∧ FH G G1 B) := by
  obtain ⟨hB, ⟨htn, him, hnw, hrm⟩, hT, hRd, ⟨hI, hBd⟩, hS, ⟨hL, hD, hSp, hrs⟩, ⟨hIi, hBi, hLi, hDi⟩, ⟨hPa, hPi⟩, ⟨⟨we, hwe⟩, hSm, hSv, ⟨od, hod⟩⟩⟩ := id hH; obtain ⟨⟨_, _, _, _, _, _, gS0⟩, _⟩ := id hS; have hI0 := hI.1; have hIi0 := hIi.1
  obtain ⟨i0, i1, i2, i3, i4, i5, i6, i7, i8, i9, i10, i11, i12, i13⟩ := id hI
  obtain ⟨b0, b1, b2_, b3, b4, b5, b6, b7, b8, b9, b10, b11, b12, b13, b14, b15, b16, b17, b18, b19⟩ := id hBd
  have hls := HI.ls hH
  have hla : ru + 6 ≤ B + 9 ∨ B + 9 + 14 ≤ ru := by omega
  have hlb : ru + 6 ≤ B + 23 ∨ B + 23 + 14 ≤ ru := by omega
  refine Ct.intro rfl (by decide) [.ref B, .int x, .int (nI mo), .float 0, .float 0, .float 0] (by simp [Value.category]) (Nat.le_of_ble_eq_true rfl) rfl ?_
  refine w_iload_n dX7_span_0 rfl ?_
  refine w_iconst (v := nI 0) dX7_span_1 (by decide) ?_
  refine w_sipush (v := nI 400) dX7_span_2 (by decide) ?_
  refine wS3k dX7_span_5 lk_X7_220 rfl rfl (c_checkNumber) (Nat.le_of_ble_eq_true rfl) (Nat.le_of_ble_eq_true rfl) (Nat.le_of_ble_eq_true rfl) (Nat.le_of_ble_eq_true rfl) ((fun h9 n9 h8 => ⟨XOut.no (j := 0) (by rw [xk1, if_neg h9]) rfl, hH.x, FH.x h8⟩)) (fun ok_5 => ?_)
  obtain ⟨n, hj8, hn, rfl⟩ := in_L (by omega) (by omega) ok_5
  have hFH : FH G G B := FH.rf
  refine w_aload_n dX7_span_8 rfl ?_
  refine w_iload_n dX7_span_9 rfl ?_
  refine w_iconst (v := nI 1) dX7_span_10 (by decide) ?_
  refine wV2d dX7_span_11 lk_X7_329 rfl (by first | assumption | exact gs_at | (rw [gs_ne (by omega)]; (first | assumption | exact gs_at | (rw [gs_ne (by omega)]; (first | assumption | exact gs_at | (rw [gs_ne (by omega)]; (first | assumption | exact gs_at | (rw [gs_ne (by omega)]; (first | assumption | exact gs_at))))))))) rfl rfl (c_tryDays hH hn) (Nat.le_of_ble_eq_true rfl) (Nat.le_of_ble_eq_true rfl) (Nat.le_of_ble_eq_true rfl) (Nat.le_of_ble_eq_true rfl) (fun G h_11 => ?_)
  have hS9 := h_11
  obtain ⟨hH, hJ, hBJ, hFH1⟩ := id hS9; have hJ0 := hJ.1
  obtain ⟨hB, ⟨htn, him, hnw, hrm⟩, hT, hRd, ⟨hI, hBd⟩, hS, ⟨hL, hD, hSp, hrs⟩, ⟨hIi, hBi, hLi, hDi⟩, ⟨hPa, hPi⟩, ⟨⟨we, hwe⟩, hSm, hSv, ⟨od, hod⟩⟩⟩ := id hH; obtain ⟨⟨_, _, _, _, _, _, gS0⟩, _⟩ := id hS; have hI0 := hI.1; have hIi0 := hIi.1
  have hJ0 := hJ.1
  have hFH := hFH.tr hFH1
  have h12 := adv_0 D 1 T (nI 1) n
  refine w_aload_n dX7_span_14 rfl ?_
  refine w_getf dX7_span_15 fl_X7_41 (by first | assumption | exact gs_at | (rw [gs_ne (by omega)]; (first | assumption | exact gs_at | (rw [gs_ne (by omega)]; (first | assumption | exact gs_at | (rw [gs_ne (by omega)]; (first | assumption | exact gs_at | (rw [gs_ne (by omega)]; (first | assumption | exact gs_at))))))))) rfl ?_
  refine w_getf dX7_span_18 fl_X7_144 (by first | assumption | exact gs_at | (rw [gs_ne (by omega)]; (first | assumption | exact gs_at | (rw [gs_ne (by omega)]; (first | assumption | exact gs_at | (rw [gs_ne (by omega)]; (first | assumption | exact gs_at | (rw [gs_ne (by omega)]; (first | assumption | exact gs_at))))))))) rfl ?_
  refine w_aload_n dX7_span_21 rfl ?_
  refine w_getf dX7_span_22 fl_X7_41 (by first | assumption | exact gs_at | (rw [gs_ne (by omega)]; (first | assumption | exact gs_at | (rw [gs_ne (by omega)]; (first | assumption | exact gs_at | (rw [gs_ne (by omega)]; (first | assumption | exact gs_at | (rw [gs_ne (by omega)]; (first | assumption | exact gs_at))))))))) rfl ?_
  refine w_getf dX7_span_25 fl_X7_242 (by first | assumption | exact gs_at | (rw [gs_ne (by omega)]; (first | assumption | exact gs_at | (rw [gs_ne (by omega)]; (first | assumption | exact gs_at | (rw [gs_ne (by omega)]; (first | assumption | exact gs_at | (rw [gs_ne (by omega)]; (first | assumption | exact gs_at))))))))) rfl ?_
  refine wS2u dX7_span_28 lk_X7_304 rfl (c_total (f := (adv D 1 T (nI 1) n).1 2) hJ.2.2.2.1 hBJ.1 (by decide)) (Nat.le_of_ble_eq_true rfl) (Nat.le_of_ble_eq_true rfl) (Nat.le_of_ble_eq_true rfl) (Nat.le_of_ble_eq_true rfl) ?_
  rw [h12]
  refine w_istore_3 dX7_span_31 rfl ?_
  refine w_iconst (v := nI 2) dX7_span_32 (by decide) ?_
  refine w_istore_4 dX7_span_33 rfl ?_
  exact lp_span hn hmo (fun G1 h1 h2 => ⟨XOut.ok (by rw [xk1, if_pos ok_5]) (by rw [ix_nI (by omega)]), h1, h2⟩) 6 2 G (.float 0) (by omega) (by omega) (by omega) hH hFH
def visN (D : LD) (T : ST) (sd : Int32) (a : Nat) : Nat → Nat | 0 => 1 * 2 ^ T 1 a | k + 1 => visN D T sd a k ||| 1 * 2 ^ (adv D 0 T sd (k + 1)).1 1 a
theorem lp_visits {E : EV} {Q : OC → AH → Prop} {G0 : AH} {B tn im nw rm ru sp : Nat} {f : Nat → Nat} {wb sd si : Int32} {T Ti : ST} {D Di : LD} {P : Nat → ST × Int32} {a n : Nat} (ha : a < 12) (hn : n ≤ 60) (hQ : ∀ G1, HI G1 B tn f wb T sd D im Ti si Di nw rm P ru sp → FH G0 G1 B → Q (.inl (some (.int (nI (visN D T sd a n))))) G1) : ∀ (k i : Nat) (G : AH), n - i < k → i ≤ n → HSc G0 G B tn f wb T sd D im Ti si Di nw rm P ru sp ((adv D 0 T sd i).1) ((adv D 0 T sd i).2) → Wp E 10 2 12 kX7_visits Q G (2, 12) 40 [.ref B, .int (nI a), .int (nI n), .int (nI (visN D T sd a i)), .int (nI i)] [] := by
  intro k
  induction k with
  | zero => intro i G h; exact absurd h (by omega)
  | succ k ih =>
    intro i G hk hi hS9
    obtain ⟨hH, hJ, hBJ, hFH⟩ := id hS9; have hJ0 := hJ.1
    obtain ⟨hB, ⟨htn, him, hnw, hrm⟩, hT, hRd, ⟨hI, hBd⟩, hS, ⟨hL, hD, hSp, hrs⟩, ⟨hIi, hBi, hLi, hDi⟩, ⟨hPa, hPi⟩, ⟨⟨we, hwe⟩, hSm, hSv, ⟨od, hod⟩⟩⟩ := id hH; obtain ⟨⟨_, _, _, _, _, _, gS0⟩, _⟩ := id hS; have hI0 := hI.1; have hIi0 := hIi.1
    have hls := HI.ls hH
    have hlb : ru + 6 ≤ B + 23 ∨ B + 23 + 14 ≤ ru := by omega
    have hJ0 := hJ.1
    have hlt1 := (hBJ.day 0 (adv D 0 T sd i).2 : Bd (dayT D 0 (adv D 0 T sd i).1 (adv D 0 T sd i).2)).2.2.1 a
    refine w_iload dX7_visits_40 rfl ?_
    refine w_iload_n dX7_visits_42 rfl ?_
    refine w_icmp_ge (tgt := 81) dX7_visits_43 (by decide) (fun c_43 => ?_) (fun c_43 => ?_)
    · try simp (disch := omega) only [nI_b2, Decidable.not_not, nI_ltI, nI_leI, nI_eq, ge_iff_le, gt_iff_lt, ne_eq, Nat.not_lt, Nat.not_le] at c_43
      refine w_iload_n dX7_visits_81 rfl ?_
      refine w_iret dX7_visits_82 rfl (Nat.le_of_ble_eq_true rfl) (Nat.le_of_ble_eq_true rfl) ?_
      have e : i = n := by omega
      subst e
      exact hQ G hH hFH
    · try simp (disch := omega) only [nI_b2, Decidable.not_not, nI_ltI, nI_leI, nI_eq, ge_iff_le, gt_iff_lt, ne_eq, Nat.not_lt, Nat.not_le] at c_43
      refine w_aload_n dX7_visits_46 rfl ?_
      refine w_getf dX7_visits_47 fl_X7_41 (by first | assumption | exact gs_at | (rw [gs_ne (by omega)]; (first | assumption | exact gs_at | (rw [gs_ne (by omega)]; (first | assumption | exact gs_at | (rw [gs_ne (by omega)]; (first | assumption | exact gs_at | (rw [gs_ne (by omega)]; (first | assumption | exact gs_at))))))))) rfl ?_
      refine w_aload_n dX7_visits_50 rfl ?_
      refine w_getf dX7_visits_51 fl_X7_47 (by first | assumption | exact gs_at | (rw [gs_ne (by omega)]; (first | assumption | exact gs_at | (rw [gs_ne (by omega)]; (first | assumption | exact gs_at | (rw [gs_ne (by omega)]; (first | assumption | exact gs_at | (rw [gs_ne (by omega)]; (first | assumption | exact gs_at))))))))) rfl ?_
      refine w_iconst (v := nI 0) dX7_visits_54 (by decide) ?_
      refine wV2i dX7_visits_55 lk_X7_235 rfl (by first | assumption | exact gs_at | (rw [gs_ne (by omega)]; (first | assumption | exact gs_at | (rw [gs_ne (by omega)]; (first | assumption | exact gs_at | (rw [gs_ne (by omega)]; (first | assumption | exact gs_at | (rw [gs_ne (by omega)]; (first | assumption | exact gs_at))))))))) rfl rfl (c_passDay hL hD hJ hBJ (by decide) hlb) (Nat.le_of_ble_eq_true rfl) (Nat.le_of_ble_eq_true rfl) (Nat.le_of_ble_eq_true rfl) (Nat.le_of_ble_eq_true rfl) (fun r_55 G h_55 => ?_)
      obtain ⟨hr9, hJ1, hL1, hF1⟩ := h_55
      have hS9 := hS9.day hJ1 hL1 hF1
      obtain ⟨hH, hJ, hBJ, hFH⟩ := id hS9; have hJ0 := hJ.1
      obtain ⟨hB, ⟨htn, him, hnw, hrm⟩, hT, hRd, ⟨hI, hBd⟩, hS, ⟨hL, hD, hSp, hrs⟩, ⟨hIi, hBi, hLi, hDi⟩, ⟨hPa, hPi⟩, ⟨⟨we, hwe⟩, hSm, hSv, ⟨od, hod⟩⟩⟩ := id hH; obtain ⟨⟨_, _, _, _, _, _, gS0⟩, _⟩ := id hS; have hI0 := hI.1; have hIi0 := hIi.1
      have hJ0 := hJ.1
      refine w_pop dX7_visits_58 rfl ?_
      refine w_iload_n dX7_visits_59 rfl ?_
      refine w_iconst (v := nI 1) dX7_visits_60 (by decide) ?_
      refine w_aload_n dX7_visits_61 rfl ?_
      refine w_getf dX7_visits_62 fl_X7_41 (by first | assumption | exact gs_at | (rw [gs_ne (by omega)]; (first | assumption | exact gs_at | (rw [gs_ne (by omega)]; (first | assumption | exact gs_at | (rw [gs_ne (by omega)]; (first | assumption | exact gs_at | (rw [gs_ne (by omega)]; (first | assumption | exact gs_at))))))))) rfl ?_
      refine w_getf dX7_visits_65 fl_X7_134 (by first | assumption | exact gs_at | (rw [gs_ne (by omega)]; (first | assumption | exact gs_at | (rw [gs_ne (by omega)]; (first | assumption | exact gs_at | (rw [gs_ne (by omega)]; (first | assumption | exact gs_at | (rw [gs_ne (by omega)]; (first | assumption | exact gs_at))))))))) rfl ?_
      refine w_iload_n dX7_visits_68 rfl ?_
      refine wS2u dX7_visits_69 lk_X7_137 rfl (c_atN hJ.2.2.1 ha (by decide)) (Nat.le_of_ble_eq_true rfl) (Nat.le_of_ble_eq_true rfl) (Nat.le_of_ble_eq_true rfl) (Nat.le_of_ble_eq_true rfl) ?_
      refine w_ishlN (by omega) (p2_lt (by omega)) dX7_visits_72 ?_
      first | refine w_iorN dX7_visits_73 ?_ | refine w_ior dX7_visits_73 ?_
      refine w_istore_3 dX7_visits_74 rfl ?_
      first | refine w_iinc_4 dX7_visits_75 (nI_inc _) rfl ?_ | refine w_iinc_4 dX7_visits_75 rfl rfl ?_
      refine w_goto (tgt := 40) dX7_visits_78 (by decide) ?_
      exact ih (i + 1) G (by omega) (by omega) hS9
theorem c_visits {E : EV} {G : AH} {B tn im nw rm ru sp : Nat} {f : Nat → Nat} {wb sd si : Int32} {T Ti : ST} {D Di : LD} {P : Nat → ST × Int32} {x y : Int32} (hH : HI G B tn f wb T sd D im Ti si Di nw rm P ru sp)  : Ct E 10 2 12 kX7_visits [.ref B, .int x, .int y] G (fun o G1 => XOut ["java/lang/IndexOutOfBoundsException", "java/lang/IllegalArgumentException"] (xk2 (okI (T 12 0) x) (okN 0 (nI 60) y)) (nI (visN D T sd (ix x) (ix y))) o ∧ HI G1 B tn f wb T sd D im Ti si Di nw rm P ru sp ∧ FH G G1 B) := by
  obtain ⟨hB, ⟨htn, him, hnw, hrm⟩, hT, hRd, ⟨hI, hBd⟩, hS, ⟨hL, hD, hSp, hrs⟩, ⟨hIi, hBi, hLi, hDi⟩, ⟨hPa, hPi⟩, ⟨⟨we, hwe⟩, hSm, hSv, ⟨od, hod⟩⟩⟩ := id hH; obtain ⟨⟨_, _, _, _, _, _, gS0⟩, _⟩ := id hS; have hI0 := hI.1; have hIi0 := hIi.1
  obtain ⟨i0, i1, i2, i3, i4, i5, i6, i7, i8, i9, i10, i11, i12, i13⟩ := id hI
  obtain ⟨b0, b1, b2_, b3, b4, b5, b6, b7, b8, b9, b10, b11, b12, b13, b14, b15, b16, b17, b18, b19⟩ := id hBd
  have hls := HI.ls hH
  have hla : ru + 6 ≤ B + 9 ∨ B + 9 + 14 ≤ ru := by omega
  have hlb : ru + 6 ≤ B + 23 ∨ B + 23 + 14 ≤ ru := by omega
  refine Ct.intro rfl (by decide) [.ref B, .int x, .int y, .float 0, .float 0] (by simp [Value.category]) (Nat.le_of_ble_eq_true rfl) rfl ?_
  refine w_aload_n dX7_visits_0 rfl ?_
  refine w_iload_n dX7_visits_1 rfl ?_
  refine wV1k dX7_visits_2 lk_X7_127 rfl (by first | assumption | exact gs_at | (rw [gs_ne (by omega)]; (first | assumption | exact gs_at | (rw [gs_ne (by omega)]; (first | assumption | exact gs_at | (rw [gs_ne (by omega)]; (first | assumption | exact gs_at | (rw [gs_ne (by omega)]; (first | assumption | exact gs_at))))))))) rfl rfl rfl (c_checkItem hB hI) (Nat.le_of_ble_eq_true rfl) (Nat.le_of_ble_eq_true rfl) (Nat.le_of_ble_eq_true rfl) (Nat.le_of_ble_eq_true rfl) ((fun h9 n9 h8 => ⟨XOut.no (j := 0) (by rw [xk2, if_neg h9]) rfl, hH.x, FH.x h8⟩)) (fun ok_2 => ?_)
  obtain ⟨i, hi9, rfl⟩ := in_N (by omega) ok_2
  refine w_iload_n dX7_visits_5 rfl ?_
  refine w_iconst (v := nI 0) dX7_visits_6 (by decide) ?_
  refine w_bipush (v := nI 60) dX7_visits_7 (by decide) ?_
  refine wS3k dX7_visits_9 lk_X7_220 rfl rfl (c_checkNumber) (Nat.le_of_ble_eq_true rfl) (Nat.le_of_ble_eq_true rfl) (Nat.le_of_ble_eq_true rfl) (Nat.le_of_ble_eq_true rfl) ((fun h9 n9 h8 => ⟨XOut.no (j := 1) (by rw [xk2, if_pos ok_2, if_neg h9]) rfl, hH.x, FH.x h8⟩)) (fun ok_9 => ?_)
  obtain ⟨n, hj8, hn, rfl⟩ := in_L (by omega) (by omega) ok_9
  have hb2 := b2_ i
  refine w_aload_n dX7_visits_12 rfl ?_
  refine w_getf dX7_visits_13 fl_X7_41 (by first | assumption | exact gs_at | (rw [gs_ne (by omega)]; (first | assumption | exact gs_at | (rw [gs_ne (by omega)]; (first | assumption | exact gs_at | (rw [gs_ne (by omega)]; (first | assumption | exact gs_at | (rw [gs_ne (by omega)]; (first | assumption | exact gs_at))))))))) rfl ?_
  refine w_aload_n dX7_visits_16 rfl ?_
  refine w_getf dX7_visits_17 fl_X7_37 (by first | assumption | exact gs_at | (rw [gs_ne (by omega)]; (first | assumption | exact gs_at | (rw [gs_ne (by omega)]; (first | assumption | exact gs_at | (rw [gs_ne (by omega)]; (first | assumption | exact gs_at | (rw [gs_ne (by omega)]; (first | assumption | exact gs_at))))))))) rfl ?_
  refine wV1d dX7_visits_20 lk_X7_94 rfl (by first | assumption | exact gs_at | (rw [gs_ne (by omega)]; (first | assumption | exact gs_at | (rw [gs_ne (by omega)]; (first | assumption | exact gs_at | (rw [gs_ne (by omega)]; (first | assumption | exact gs_at | (rw [gs_ne (by omega)]; (first | assumption | exact gs_at))))))))) rfl rfl (c_copyIsl hS hI (by omega)) (Nat.le_of_ble_eq_true rfl) (Nat.le_of_ble_eq_true rfl) (Nat.le_of_ble_eq_true rfl) (Nat.le_of_ble_eq_true rfl) (fun G h_20 => ?_)
  obtain ⟨hJ1, hF1⟩ := h_20
  have hS9 := HSc.copy hH hJ1 hF1
  obtain ⟨hH, hJ, hBJ, hFH⟩ := id hS9; have hJ0 := hJ.1
  obtain ⟨hB, ⟨htn, him, hnw, hrm⟩, hT, hRd, ⟨hI, hBd⟩, hS, ⟨hL, hD, hSp, hrs⟩, ⟨hIi, hBi, hLi, hDi⟩, ⟨hPa, hPi⟩, ⟨⟨we, hwe⟩, hSm, hSv, ⟨od, hod⟩⟩⟩ := id hH; obtain ⟨⟨_, _, _, _, _, _, gS0⟩, _⟩ := id hS; have hI0 := hI.1; have hIi0 := hIi.1
  have hJ0 := hJ.1
  refine w_iconst (v := nI 1) dX7_visits_23 (by decide) ?_
  refine w_aload_n dX7_visits_24 rfl ?_
  refine w_getf dX7_visits_25 fl_X7_41 (by first | assumption | exact gs_at | (rw [gs_ne (by omega)]; (first | assumption | exact gs_at | (rw [gs_ne (by omega)]; (first | assumption | exact gs_at | (rw [gs_ne (by omega)]; (first | assumption | exact gs_at | (rw [gs_ne (by omega)]; (first | assumption | exact gs_at))))))))) rfl ?_
  refine w_getf dX7_visits_28 fl_X7_134 (by first | assumption | exact gs_at | (rw [gs_ne (by omega)]; (first | assumption | exact gs_at | (rw [gs_ne (by omega)]; (first | assumption | exact gs_at | (rw [gs_ne (by omega)]; (first | assumption | exact gs_at | (rw [gs_ne (by omega)]; (first | assumption | exact gs_at))))))))) rfl ?_
  refine w_iload_n dX7_visits_31 rfl ?_
  refine wS2u dX7_visits_32 lk_X7_137 rfl (c_atN (f := fun i => nI (T 1 i)) hJ.2.2.1 (by omega) (by decide)) (Nat.le_of_ble_eq_true rfl) (Nat.le_of_ble_eq_true rfl) (Nat.le_of_ble_eq_true rfl) (Nat.le_of_ble_eq_true rfl) ?_
  refine w_ishlN (by omega) (p2_lt (by omega)) dX7_visits_35 ?_
  refine w_istore_3 dX7_visits_36 rfl ?_
  refine w_iconst (v := nI 0) dX7_visits_37 (by decide) ?_
  refine w_istore_4 dX7_visits_38 rfl ?_
  exact lp_visits (by omega) hn (fun G1 h1 h2 => ⟨XOut.ok (by rw [xk2, if_pos ok_2, if_pos ok_9]) (by rw [ix_nI (by omega), ix_nI (by omega)]), h1, h2⟩) (n + 1) 0 G (by omega) (by omega) hS9
theorem lp_stays {E : EV} {Q : OC → AH → Prop} {G0 : AH} {B tn im nw rm ru sp : Nat} {f : Nat → Nat} {wb sd si : Int32} {T Ti : ST} {D Di : LD} {P : Nat → ST × Int32} {a : Nat} (ha : a < 12) (hQ : ∀ G1, HI G1 B tn f wb T sd D im Ti si Di nw rm P ru sp → FH G0 G1 B → Q (.inl (some (.int (syV D T sd a)))) G1) : ∀ (k i : Nat) (G : AH), 401 - i < k → i ≤ 401 → HSc G0 G B tn f wb T sd D im Ti si Di nw rm P ru sp ((adv D 0 T sd (i - 1)).1) ((adv D 0 T sd (i - 1)).2) → 1 ≤ i → seekV (syP D T sd a) nI (401 - i) i = syV D T sd a → Wp E 10 1 6 kX7_stays Q G (1, 6) 18 [.ref B, .int (nI a), .int (nI i)] [] := by
  intro k
  induction k with
  | zero => intro i G h; exact absurd h (by omega)
  | succ k ih =>
    intro i G hk hi hS9 hi1 hv
    obtain ⟨hH, hJ, hBJ, hFH⟩ := id hS9; have hJ0 := hJ.1
    obtain ⟨hB, ⟨htn, him, hnw, hrm⟩, hT, hRd, ⟨hI, hBd⟩, hS, ⟨hL, hD, hSp, hrs⟩, ⟨hIi, hBi, hLi, hDi⟩, ⟨hPa, hPi⟩, ⟨⟨we, hwe⟩, hSm, hSv, ⟨od, hod⟩⟩⟩ := id hH; obtain ⟨⟨_, _, _, _, _, _, gS0⟩, _⟩ := id hS; have hI0 := hI.1; have hIi0 := hIi.1
    have hls := HI.ls hH
    have hlb : ru + 6 ≤ B + 23 ∨ B + 23 + 14 ≤ ru := by omega
    have hJ0 := hJ.1
    obtain ⟨i0, i1, i2, i3, i4, i5, i6, i7, i8, i9, i10, i11, i12, i13⟩ := id hI
    have hlt2 := hBd.2.2.1 a
    refine w_iload_n dX7_stays_18 rfl ?_
    refine w_sipush (v := nI 400) dX7_stays_19 (by decide) ?_
    refine w_icmp_gt (tgt := 71) dX7_stays_22 (by decide) (fun c_22 => ?_) (fun c_22 => ?_)
    · try simp (disch := omega) only [nI_b2, Decidable.not_not, nI_ltI, nI_leI, nI_eq, ge_iff_le, gt_iff_lt, ne_eq, Nat.not_lt, Nat.not_le] at c_22
      have e : i = 401 := by omega
      subst e
      refine w_iconst (v := (-1)) dX7_stays_71 (by decide) ?_
      refine w_iret dX7_stays_72 rfl (Nat.le_of_ble_eq_true rfl) (Nat.le_of_ble_eq_true rfl) ?_
      have h9 := hQ G hH hFH
      rw [← hv] at h9
      exact h9
    · try simp (disch := omega) only [nI_b2, Decidable.not_not, nI_ltI, nI_leI, nI_eq, ge_iff_le, gt_iff_lt, ne_eq, Nat.not_lt, Nat.not_le] at c_22
      rw [show 401 - i = (401 - (i + 1)) + 1 by omega, seekV] at hv
      have e1 : adv D 0 T sd i = (dayT D 0 (adv D 0 T sd (i - 1)).1 (adv D 0 T sd (i - 1)).2, dayS D 0 (adv D 0 T sd (i - 1)).1 (adv D 0 T sd (i - 1)).2) := by rw [show i = (i - 1) + 1 by omega]; rfl
      have e2 : dayT D 0 (adv D 0 T sd (i - 1)).1 (adv D 0 T sd (i - 1)).2 = (adv D 0 T sd i).1 := by rw [e1]
      have e3 : dayS D 0 (adv D 0 T sd (i - 1)).1 (adv D 0 T sd (i - 1)).2 = (adv D 0 T sd i).2 := by rw [e1]
      refine w_aload_n dX7_stays_25 rfl ?_
      refine w_getf dX7_stays_26 fl_X7_41 (by first | assumption | exact gs_at | (rw [gs_ne (by omega)]; (first | assumption | exact gs_at | (rw [gs_ne (by omega)]; (first | assumption | exact gs_at | (rw [gs_ne (by omega)]; (first | assumption | exact gs_at | (rw [gs_ne (by omega)]; (first | assumption | exact gs_at))))))))) rfl ?_
      refine w_aload_n dX7_stays_29 rfl ?_
      refine w_getf dX7_stays_30 fl_X7_47 (by first | assumption | exact gs_at | (rw [gs_ne (by omega)]; (first | assumption | exact gs_at | (rw [gs_ne (by omega)]; (first | assumption | exact gs_at | (rw [gs_ne (by omega)]; (first | assumption | exact gs_at | (rw [gs_ne (by omega)]; (first | assumption | exact gs_at))))))))) rfl ?_
      refine w_iconst (v := nI 0) dX7_stays_33 (by decide) ?_
      refine wV2i dX7_stays_34 lk_X7_235 rfl (by first | assumption | exact gs_at | (rw [gs_ne (by omega)]; (first | assumption | exact gs_at | (rw [gs_ne (by omega)]; (first | assumption | exact gs_at | (rw [gs_ne (by omega)]; (first | assumption | exact gs_at | (rw [gs_ne (by omega)]; (first | assumption | exact gs_at))))))))) rfl rfl (c_passDay hL hD hJ hBJ (by decide) hlb) (Nat.le_of_ble_eq_true rfl) (Nat.le_of_ble_eq_true rfl) (Nat.le_of_ble_eq_true rfl) (Nat.le_of_ble_eq_true rfl) (fun r_34 G h_34 => ?_)
      obtain ⟨hr9, hJ1, hL1, hF1⟩ := h_34
      have hS9 := hS9.day hJ1 hL1 hF1
      rw [e2, e3] at hS9
      obtain ⟨hH, hJ, hBJ, hFH⟩ := id hS9; have hJ0 := hJ.1
      obtain ⟨hB, ⟨htn, him, hnw, hrm⟩, hT, hRd, ⟨hI, hBd⟩, hS, ⟨hL, hD, hSp, hrs⟩, ⟨hIi, hBi, hLi, hDi⟩, ⟨hPa, hPi⟩, ⟨⟨we, hwe⟩, hSm, hSv, ⟨od, hod⟩⟩⟩ := id hH; obtain ⟨⟨_, _, _, _, _, _, gS0⟩, _⟩ := id hS; have hI0 := hI.1; have hIi0 := hIi.1
      have hJ0 := hJ.1
      obtain ⟨i0, i1, i2, i3, i4, i5, i6, i7, i8, i9, i10, i11, i12, i13⟩ := id hI
      have hlt1 := hBJ.2.2.1 a
      refine w_pop dX7_stays_37 rfl ?_
      refine w_aload_n dX7_stays_38 rfl ?_
      refine w_getf dX7_stays_39 fl_X7_41 (by first | assumption | exact gs_at | (rw [gs_ne (by omega)]; (first | assumption | exact gs_at | (rw [gs_ne (by omega)]; (first | assumption | exact gs_at | (rw [gs_ne (by omega)]; (first | assumption | exact gs_at | (rw [gs_ne (by omega)]; (first | assumption | exact gs_at))))))))) rfl ?_
      refine w_getf dX7_stays_42 fl_X7_134 (by first | assumption | exact gs_at | (rw [gs_ne (by omega)]; (first | assumption | exact gs_at | (rw [gs_ne (by omega)]; (first | assumption | exact gs_at | (rw [gs_ne (by omega)]; (first | assumption | exact gs_at | (rw [gs_ne (by omega)]; (first | assumption | exact gs_at))))))))) rfl ?_
      refine w_iload_n dX7_stays_45 rfl ?_
      refine wS2u dX7_stays_46 lk_X7_137 rfl (c_atN (f := fun j => nI ((adv D 0 T sd i).1 1 j)) hJ.2.2.1 ha (by decide)) (Nat.le_of_ble_eq_true rfl) (Nat.le_of_ble_eq_true rfl) (Nat.le_of_ble_eq_true rfl) (Nat.le_of_ble_eq_true rfl) ?_
      refine w_aload_n dX7_stays_49 rfl ?_
      refine w_getf dX7_stays_50 fl_X7_37 (by first | assumption | exact gs_at | (rw [gs_ne (by omega)]; (first | assumption | exact gs_at | (rw [gs_ne (by omega)]; (first | assumption | exact gs_at | (rw [gs_ne (by omega)]; (first | assumption | exact gs_at | (rw [gs_ne (by omega)]; (first | assumption | exact gs_at))))))))) rfl ?_
      refine w_getf dX7_stays_53 fl_X7_134 (by first | assumption | exact gs_at | (rw [gs_ne (by omega)]; (first | assumption | exact gs_at | (rw [gs_ne (by omega)]; (first | assumption | exact gs_at | (rw [gs_ne (by omega)]; (first | assumption | exact gs_at | (rw [gs_ne (by omega)]; (first | assumption | exact gs_at))))))))) rfl ?_
      refine w_iload_n dX7_stays_56 rfl ?_
      refine wS2u dX7_stays_57 lk_X7_137 rfl (c_atN (f := fun j => nI (T 1 j)) i2 ha (by decide)) (Nat.le_of_ble_eq_true rfl) (Nat.le_of_ble_eq_true rfl) (Nat.le_of_ble_eq_true rfl) (Nat.le_of_ble_eq_true rfl) ?_
      refine w_icmp_eq (tgt := 65) dX7_stays_60 (by decide) (fun c_60 => ?_) (fun c_60 => ?_)
      · try simp (disch := omega) only [nI_b2, Decidable.not_not, nI_ltI, nI_leI, nI_eq, ge_iff_le, gt_iff_lt, ne_eq, Nat.not_lt, Nat.not_le] at c_60
        rw [if_neg (show ¬ syP D T sd a i from fun h => h c_60)] at hv
        first | refine w_iinc_2 dX7_stays_65 (nI_inc _) rfl ?_ | refine w_iinc_2 dX7_stays_65 rfl rfl ?_
        refine w_goto (tgt := 18) dX7_stays_68 (by decide) ?_
        exact ih (i + 1) G (by omega) (by omega) (by rw [Nat.add_sub_cancel]; exact hS9) (by omega) hv
      · try simp (disch := omega) only [nI_b2, Decidable.not_not, nI_ltI, nI_leI, nI_eq, ge_iff_le, gt_iff_lt, ne_eq, Nat.not_lt, Nat.not_le] at c_60
        rw [if_pos (show syP D T sd a i from c_60)] at hv
        refine w_iload_n dX7_stays_63 rfl ?_
        refine w_iret dX7_stays_64 rfl (Nat.le_of_ble_eq_true rfl) (Nat.le_of_ble_eq_true rfl) ?_
        have h9 := hQ G hH hFH
        rw [← hv] at h9
        exact h9
theorem c_stays {E : EV} {G : AH} {B tn im nw rm ru sp : Nat} {f : Nat → Nat} {wb sd si : Int32} {T Ti : ST} {D Di : LD} {P : Nat → ST × Int32} {x : Int32} (hH : HI G B tn f wb T sd D im Ti si Di nw rm P ru sp)  : Ct E 10 1 6 kX7_stays [.ref B, .int x] G (fun o G1 => XOut ["java/lang/IndexOutOfBoundsException"] (xk1 (okI (T 12 0) x)) (syV D T sd (ix x)) o ∧ HI G1 B tn f wb T sd D im Ti si Di nw rm P ru sp ∧ FH G G1 B) := by
  obtain ⟨hB, ⟨htn, him, hnw, hrm⟩, hT, hRd, ⟨hI, hBd⟩, hS, ⟨hL, hD, hSp, hrs⟩, ⟨hIi, hBi, hLi, hDi⟩, ⟨hPa, hPi⟩, ⟨⟨we, hwe⟩, hSm, hSv, ⟨od, hod⟩⟩⟩ := id hH; obtain ⟨⟨_, _, _, _, _, _, gS0⟩, _⟩ := id hS; have hI0 := hI.1; have hIi0 := hIi.1
  obtain ⟨i0, i1, i2, i3, i4, i5, i6, i7, i8, i9, i10, i11, i12, i13⟩ := id hI
  obtain ⟨b0, b1, b2_, b3, b4, b5, b6, b7, b8, b9, b10, b11, b12, b13, b14, b15, b16, b17, b18, b19⟩ := id hBd
  have hls := HI.ls hH
  have hla : ru + 6 ≤ B + 9 ∨ B + 9 + 14 ≤ ru := by omega
  have hlb : ru + 6 ≤ B + 23 ∨ B + 23 + 14 ≤ ru := by omega
  refine Ct.intro rfl (by decide) [.ref B, .int x, .float 0] (by simp [Value.category]) (Nat.le_of_ble_eq_true rfl) rfl ?_
  refine w_aload_n dX7_stays_0 rfl ?_
  refine w_iload_n dX7_stays_1 rfl ?_
  refine wV1k dX7_stays_2 lk_X7_127 rfl (by first | assumption | exact gs_at | (rw [gs_ne (by omega)]; (first | assumption | exact gs_at | (rw [gs_ne (by omega)]; (first | assumption | exact gs_at | (rw [gs_ne (by omega)]; (first | assumption | exact gs_at | (rw [gs_ne (by omega)]; (first | assumption | exact gs_at))))))))) rfl rfl rfl (c_checkItem hB hI) (Nat.le_of_ble_eq_true rfl) (Nat.le_of_ble_eq_true rfl) (Nat.le_of_ble_eq_true rfl) (Nat.le_of_ble_eq_true rfl) ((fun h9 n9 h8 => ⟨XOut.no (j := 0) (by rw [xk1, if_neg h9]) rfl, hH.x, FH.x h8⟩)) (fun ok_2 => ?_)
  obtain ⟨i, hi9, rfl⟩ := in_N (by omega) ok_2
  refine w_aload_n dX7_stays_5 rfl ?_
  refine w_getf dX7_stays_6 fl_X7_41 (by first | assumption | exact gs_at | (rw [gs_ne (by omega)]; (first | assumption | exact gs_at | (rw [gs_ne (by omega)]; (first | assumption | exact gs_at | (rw [gs_ne (by omega)]; (first | assumption | exact gs_at | (rw [gs_ne (by omega)]; (first | assumption | exact gs_at))))))))) rfl ?_
  refine w_aload_n dX7_stays_9 rfl ?_
  refine w_getf dX7_stays_10 fl_X7_37 (by first | assumption | exact gs_at | (rw [gs_ne (by omega)]; (first | assumption | exact gs_at | (rw [gs_ne (by omega)]; (first | assumption | exact gs_at | (rw [gs_ne (by omega)]; (first | assumption | exact gs_at | (rw [gs_ne (by omega)]; (first | assumption | exact gs_at))))))))) rfl ?_
  refine wV1d dX7_stays_13 lk_X7_94 rfl (by first | assumption | exact gs_at | (rw [gs_ne (by omega)]; (first | assumption | exact gs_at | (rw [gs_ne (by omega)]; (first | assumption | exact gs_at | (rw [gs_ne (by omega)]; (first | assumption | exact gs_at | (rw [gs_ne (by omega)]; (first | assumption | exact gs_at))))))))) rfl rfl (c_copyIsl hS hI (by omega)) (Nat.le_of_ble_eq_true rfl) (Nat.le_of_ble_eq_true rfl) (Nat.le_of_ble_eq_true rfl) (Nat.le_of_ble_eq_true rfl) (fun G h_13 => ?_)
  obtain ⟨hJ1, hF1⟩ := h_13
  have hS9 := HSc.copy hH hJ1 hF1
  obtain ⟨hH, hJ, hBJ, hFH⟩ := id hS9; have hJ0 := hJ.1
  obtain ⟨hB, ⟨htn, him, hnw, hrm⟩, hT, hRd, ⟨hI, hBd⟩, hS, ⟨hL, hD, hSp, hrs⟩, ⟨hIi, hBi, hLi, hDi⟩, ⟨hPa, hPi⟩, ⟨⟨we, hwe⟩, hSm, hSv, ⟨od, hod⟩⟩⟩ := id hH; obtain ⟨⟨_, _, _, _, _, _, gS0⟩, _⟩ := id hS; have hI0 := hI.1; have hIi0 := hIi.1
  have hJ0 := hJ.1
  refine w_iconst (v := nI 1) dX7_stays_16 (by decide) ?_
  refine w_istore_2 dX7_stays_17 rfl ?_
  exact lp_stays (by omega) (fun G1 h1 h2 => ⟨XOut.ok (by rw [xk1, if_pos ok_2]) (by rw [ix_nI (by omega)]), h1, h2⟩) 402 1 G (by omega) (by omega) hS9 (by omega) rfl
