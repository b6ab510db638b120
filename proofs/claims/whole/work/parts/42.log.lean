/-! the log, what is undone, the image -/
def lgC (T : ST) (j w : Nat) : Nat := T 11 ((T 12 5 + 60 - j) % 60 * 4 + w)
def ledN (T : ST) (s : Nat) : Nat → Nat | 0 => 0 | k + 1 => ledN T s k + (if lgC T k 1 = s then 1 else 0)
def ledM (T : ST) (s : Nat) : Nat → Nat | 0 => 0 | k + 1 => ledM T s k + (if lgC T k 1 = s then lgC T k 3 else 0)
theorem led_le {T : ST} (hB : Bd T) (s : Nat) : ∀ k, ledN T s k ≤ k ∧ ledM T s k ≤ k * 9999
  | 0 => ⟨Nat.le_refl _, Nat.zero_le _⟩
  | k + 1 => by
    have := led_le hB s k
    have h := hB.2.2.2.2.2.2.2.2.2.2.2.2.1 ((T 12 5 + 60 - k) % 60 * 4 + 3)
    rw [ledN, ledM, Nat.succ_mul]
    unfold lgC at *
    split <;> omega
def logV (T : ST) (x w : Int32) : Int32 := if x < nI 0 then -1 else if x < nI (T 12 6) then nI (lgC T (ix x) (ix w)) else -1
theorem lp_led {E : EV} {Q : OC → AH → Prop} {G : AH} {s ow : Nat} {B tn im nw rm ru sp : Nat} {f : Nat → Nat} {wb sd si : Int32} {T Ti : ST} {D Di : LD} {P : Nat → ST × Int32} (hs : s < 2) (how : ow < 2 ^ 30) (hH : HI G B tn f wb T sd D im Ti si Di nw rm P ru sp) (hQ : Q (.inl (some (.int (nI (if ow = 0 then ledN T s (T 12 6) else ledM T s (T 12 6)))))) G) : ∀ (k i : Nat), T 12 6 - i < k → i ≤ T 12 6 → Wp E 10 1 6 kX7_led Q G (1, 6) 12 [.ref B, .int (nI s), .int (nI ow), .int (nI (ledN T s i)), .int (nI (ledM T s i)), .int (nI i)] [] := by
  obtain ⟨hB, ⟨htn, him, hnw, hrm⟩, hT, hRd, ⟨hI, hBd⟩, hS, ⟨hL, hD, hSp, hrs⟩, ⟨hIi, hBi, hLi, hDi⟩, ⟨hPa, hPi⟩, ⟨⟨we, hwe⟩, hSm, hSv, ⟨od, hod⟩⟩⟩ := id hH; obtain ⟨⟨_, _, _, _, _, _, gS0⟩, _⟩ := id hS; have hI0 := hI.1; have hIi0 := hIi.1
  obtain ⟨i0, i1, i2, i3, i4, i5, i6, i7, i8, i9, i10, i11, i12, i13⟩ := id hI
  obtain ⟨b0, b1, b2_, b3, b4, b5, b6, b7, b8, b9, b10, b11, b12, b13, b14, b15, b16, b17, b18, b19⟩ := id hBd
  have hls := HI.ls hH
  have hla : ru + 6 ≤ B + 9 ∨ B + 9 + 14 ≤ ru := by omega
  have hlb : ru + 6 ≤ B + 23 ∨ B + 23 + 14 ≤ ru := by omega
  intro k
  induction k with
  | zero => intro i h; exact absurd h (by omega)
  | succ k ih =>
    intro i hk hi
    have hle := led_le hBd s i
    refine w_iload dX7_led_12 rfl ?_
    refine w_aload_n dX7_led_14 rfl ?_
    refine w_getf dX7_led_15 fl_X7_37 (by first | assumption | exact gs_at | (rw [gs_ne (by omega)]; (first | assumption | exact gs_at | (rw [gs_ne (by omega)]; (first | assumption | exact gs_at | (rw [gs_ne (by omega)]; (first | assumption | exact gs_at | (rw [gs_ne (by omega)]; (first | assumption | exact gs_at))))))))) rfl ?_
    refine w_getf dX7_led_18 fl_X7_335 (by first | assumption | exact gs_at | (rw [gs_ne (by omega)]; (first | assumption | exact gs_at | (rw [gs_ne (by omega)]; (first | assumption | exact gs_at | (rw [gs_ne (by omega)]; (first | assumption | exact gs_at | (rw [gs_ne (by omega)]; (first | assumption | exact gs_at))))))))) rfl ?_
    refine w_getf dX7_led_21 fl_X7_339 (by first | assumption | exact gs_at | (rw [gs_ne (by omega)]; (first | assumption | exact gs_at | (rw [gs_ne (by omega)]; (first | assumption | exact gs_at | (rw [gs_ne (by omega)]; (first | assumption | exact gs_at | (rw [gs_ne (by omega)]; (first | assumption | exact gs_at))))))))) rfl ?_
    refine w_icmp_ge (tgt := 71) dX7_led_24 (by decide) (fun c_24 => ?_) (fun c_24 => ?_)
    · try simp (disch := omega) only [nI_b2, Decidable.not_not, nI_ltI, nI_leI, nI_eq, ge_iff_le, gt_iff_lt, ne_eq, Nat.not_lt, Nat.not_le] at c_24
      refine w_iload_n dX7_led_71 rfl ?_
      refine w_ifN_eq (tgt := 80) dX7_led_72 (by decide) (fun c_72 => ?_) (fun c_72 => ?_)
      · try simp (disch := omega) only [nI_b2, Decidable.not_not, nI_ltI, nI_leI, nI_eq, ge_iff_le, gt_iff_lt, ne_eq, Nat.not_lt, Nat.not_le] at c_72
        refine w_iload_n dX7_led_80 rfl ?_
        refine w_iret dX7_led_81 rfl (Nat.le_of_ble_eq_true rfl) (Nat.le_of_ble_eq_true rfl) ?_
        have e : i = T 12 6 := by omega
        subst e
        first
          | (rw [if_pos (by omega)] at hQ; exact hQ)
          | (rw [if_neg (by omega)] at hQ; exact hQ)
      · try simp (disch := omega) only [nI_b2, Decidable.not_not, nI_ltI, nI_leI, nI_eq, ge_iff_le, gt_iff_lt, ne_eq, Nat.not_lt, Nat.not_le] at c_72
        refine w_iload dX7_led_75 rfl ?_
        refine w_goto (tgt := 81) dX7_led_77 (by decide) ?_
        refine w_iret dX7_led_81 rfl (Nat.le_of_ble_eq_true rfl) (Nat.le_of_ble_eq_true rfl) ?_
        have e : i = T 12 6 := by omega
        subst e
        first
          | (rw [if_pos (by omega)] at hQ; exact hQ)
          | (rw [if_neg (by omega)] at hQ; exact hQ)
    · try simp (disch := omega) only [nI_b2, Decidable.not_not, nI_ltI, nI_leI, nI_eq, ge_iff_le, gt_iff_lt, ne_eq, Nat.not_lt, Nat.not_le] at c_24
      refine w_aload_n dX7_led_27 rfl ?_
      refine w_getf dX7_led_28 fl_X7_37 (by first | assumption | exact gs_at | (rw [gs_ne (by omega)]; (first | assumption | exact gs_at | (rw [gs_ne (by omega)]; (first | assumption | exact gs_at | (rw [gs_ne (by omega)]; (first | assumption | exact gs_at | (rw [gs_ne (by omega)]; (first | assumption | exact gs_at))))))))) rfl ?_
      refine w_getf dX7_led_31 fl_X7_335 (by first | assumption | exact gs_at | (rw [gs_ne (by omega)]; (first | assumption | exact gs_at | (rw [gs_ne (by omega)]; (first | assumption | exact gs_at | (rw [gs_ne (by omega)]; (first | assumption | exact gs_at | (rw [gs_ne (by omega)]; (first | assumption | exact gs_at))))))))) rfl ?_
      refine w_iload dX7_led_34 rfl ?_
      refine w_iconst (v := nI 1) dX7_led_36 (by decide) ?_
      refine wV2u dX7_led_37 lk_X7_344 rfl (by first | assumption | exact gs_at | (rw [gs_ne (by omega)]; (first | assumption | exact gs_at | (rw [gs_ne (by omega)]; (first | assumption | exact gs_at | (rw [gs_ne (by omega)]; (first | assumption | exact gs_at | (rw [gs_ne (by omega)]; (first | assumption | exact gs_at))))))))) rfl rfl (c_cell (w := 1) hI hBd (by omega) (by decide)) (Nat.le_of_ble_eq_true rfl) (Nat.le_of_ble_eq_true rfl) (Nat.le_of_ble_eq_true rfl) (Nat.le_of_ble_eq_true rfl) ?_
      have hb1 := b12 ((T 12 5 + 60 - i) % 60 * 4 + 1)
      refine w_iload_n dX7_led_40 rfl ?_
      refine w_icmp_ne (tgt := 65) dX7_led_41 (by decide) (fun c_41 => ?_) (fun c_41 => ?_)
      · try simp (disch := omega) only [nI_b2, Decidable.not_not, nI_ltI, nI_leI, nI_eq, ge_iff_le, gt_iff_lt, ne_eq, Nat.not_lt, Nat.not_le] at c_41
        first | refine w_iinc_5 dX7_led_65 (nI_inc _) rfl ?_ | refine w_iinc_5 dX7_led_65 rfl rfl ?_
        refine w_goto (tgt := 12) dX7_led_68 (by decide) ?_
        have hN := ih (i + 1) (by omega) (by omega)
        rw [ledN, ledM] at hN
        first
          | (rw [if_pos (show lgC T i 1 = s from c_41), if_pos (show lgC T i 1 = s from c_41)] at hN; exact hN)
          | (rw [if_neg (show ¬ lgC T i 1 = s from c_41), if_neg (show ¬ lgC T i 1 = s from c_41)] at hN; exact hN)
      · try simp (disch := omega) only [nI_b2, Decidable.not_not, nI_ltI, nI_leI, nI_eq, ge_iff_le, gt_iff_lt, ne_eq, Nat.not_lt, Nat.not_le] at c_41
        first | refine w_iinc_3 dX7_led_44 (nI_inc _) rfl ?_ | refine w_iinc_3 dX7_led_44 rfl rfl ?_
        refine w_iload dX7_led_47 rfl ?_
        refine w_aload_n dX7_led_49 rfl ?_
        refine w_getf dX7_led_50 fl_X7_37 (by first | assumption | exact gs_at | (rw [gs_ne (by omega)]; (first | assumption | exact gs_at | (rw [gs_ne (by omega)]; (first | assumption | exact gs_at | (rw [gs_ne (by omega)]; (first | assumption | exact gs_at | (rw [gs_ne (by omega)]; (first | assumption | exact gs_at))))))))) rfl ?_
        refine w_getf dX7_led_53 fl_X7_335 (by first | assumption | exact gs_at | (rw [gs_ne (by omega)]; (first | assumption | exact gs_at | (rw [gs_ne (by omega)]; (first | assumption | exact gs_at | (rw [gs_ne (by omega)]; (first | assumption | exact gs_at | (rw [gs_ne (by omega)]; (first | assumption | exact gs_at))))))))) rfl ?_
        refine w_iload dX7_led_56 rfl ?_
        refine w_iconst (v := nI 3) dX7_led_58 (by decide) ?_
        refine wV2u dX7_led_59 lk_X7_344 rfl (by first | assumption | exact gs_at | (rw [gs_ne (by omega)]; (first | assumption | exact gs_at | (rw [gs_ne (by omega)]; (first | assumption | exact gs_at | (rw [gs_ne (by omega)]; (first | assumption | exact gs_at | (rw [gs_ne (by omega)]; (first | assumption | exact gs_at))))))))) rfl rfl (c_cell (w := 3) hI hBd (by omega) (by decide)) (Nat.le_of_ble_eq_true rfl) (Nat.le_of_ble_eq_true rfl) (Nat.le_of_ble_eq_true rfl) (Nat.le_of_ble_eq_true rfl) ?_
        have hb3 := b12 ((T 12 5 + 60 - i) % 60 * 4 + 3)
        first | refine w_iaddN dX7_led_62 ?_ | refine w_iadd dX7_led_62 ?_
        refine w_istore_4 dX7_led_63 rfl ?_
        first | refine w_iinc_5 dX7_led_65 (nI_inc _) rfl ?_ | refine w_iinc_5 dX7_led_65 rfl rfl ?_
        refine w_goto (tgt := 12) dX7_led_68 (by decide) ?_
        have hN := ih (i + 1) (by omega) (by omega)
        rw [ledN, ledM] at hN
        first
          | (rw [if_pos (show lgC T i 1 = s from c_41), if_pos (show lgC T i 1 = s from c_41)] at hN; exact hN)
          | (rw [if_neg (show ¬ lgC T i 1 = s from c_41), if_neg (show ¬ lgC T i 1 = s from c_41)] at hN; exact hN)
theorem c_led {E : EV} {G : AH} {B tn im nw rm ru sp : Nat} {f : Nat → Nat} {wb sd si : Int32} {T Ti : ST} {D Di : LD} {P : Nat → ST × Int32} {x : Int32} {ow : Nat} (hH : HI G B tn f wb T sd D im Ti si Di nw rm P ru sp) (how : ow < 2 ^ 30) : Ct E 10 1 6 kX7_led [.ref B, .int x, .int (nI ow)] G (fun o G1 => XOut ["java/lang/IndexOutOfBoundsException"] (xk1 (okI 2 x)) (nI (if ow = 0 then ledN T (ix x) (T 12 6) else ledM T (ix x) (T 12 6))) o ∧ HI G1 B tn f wb T sd D im Ti si Di nw rm P ru sp ∧ FH G G1 B) := by
  obtain ⟨hB, ⟨htn, him, hnw, hrm⟩, hT, hRd, ⟨hI, hBd⟩, hS, ⟨hL, hD, hSp, hrs⟩, ⟨hIi, hBi, hLi, hDi⟩, ⟨hPa, hPi⟩, ⟨⟨we, hwe⟩, hSm, hSv, ⟨od, hod⟩⟩⟩ := id hH; obtain ⟨⟨_, _, _, _, _, _, gS0⟩, _⟩ := id hS; have hI0 := hI.1; have hIi0 := hIi.1
  obtain ⟨i0, i1, i2, i3, i4, i5, i6, i7, i8, i9, i10, i11, i12, i13⟩ := id hI
  obtain ⟨b0, b1, b2_, b3, b4, b5, b6, b7, b8, b9, b10, b11, b12, b13, b14, b15, b16, b17, b18, b19⟩ := id hBd
  have hls := HI.ls hH
  have hla : ru + 6 ≤ B + 9 ∨ B + 9 + 14 ≤ ru := by omega
  have hlb : ru + 6 ≤ B + 23 ∨ B + 23 + 14 ≤ ru := by omega
  refine Ct.intro rfl (by decide) [.ref B, .int x, .int (nI ow), .float 0, .float 0, .float 0] (by simp [Value.category]) (Nat.le_of_ble_eq_true rfl) rfl ?_
  refine w_iload_n dX7_led_0 rfl ?_
  refine wS1k dX7_led_1 lk_X7_182 rfl rfl (c_checkSide) (Nat.le_of_ble_eq_true rfl) (Nat.le_of_ble_eq_true rfl) (Nat.le_of_ble_eq_true rfl) (Nat.le_of_ble_eq_true rfl) ((fun h9 n9 h8 => ⟨XOut.no (j := 0) (by rw [xk1, if_neg h9]) rfl, hH.x, FH.x h8⟩)) (fun ok_1 => ?_)
  obtain ⟨i, hi9, rfl⟩ := in_N (by omega) ok_1
  refine w_iconst (v := nI 0) dX7_led_4 (by decide) ?_
  refine w_istore_3 dX7_led_5 rfl ?_
  refine w_iconst (v := nI 0) dX7_led_6 (by decide) ?_
  refine w_istore_4 dX7_led_7 rfl ?_
  refine w_iconst (v := nI 0) dX7_led_9 (by decide) ?_
  refine w_istore_5 dX7_led_10 rfl ?_
  exact lp_led hi9 how hH ⟨XOut.ok (by rw [xk1, if_pos ok_1]) (by rw [ix_nI (by omega)]), hH, FH.rf⟩ (T 12 6 + 1) 0 (by omega) (by omega)
theorem c_log {E : EV} {G : AH} {B tn im nw rm ru sp : Nat} {f : Nat → Nat} {wb sd si : Int32} {T Ti : ST} {D Di : LD} {P : Nat → ST × Int32} {x w : Int32} (hH : HI G B tn f wb T sd D im Ti si Di nw rm P ru sp)  : Ct E 10 1 6 kX7_log [.ref B, .int x, .int w] G (fun o G1 => XOut ["java/util/NoSuchElementException"] (xk1 (okN 0 (nI 3) w)) (logV T x w) o ∧ HI G1 B tn f wb T sd D im Ti si Di nw rm P ru sp ∧ FH G G1 B) := by
  obtain ⟨hB, ⟨htn, him, hnw, hrm⟩, hT, hRd, ⟨hI, hBd⟩, hS, ⟨hL, hD, hSp, hrs⟩, ⟨hIi, hBi, hLi, hDi⟩, ⟨hPa, hPi⟩, ⟨⟨we, hwe⟩, hSm, hSv, ⟨od, hod⟩⟩⟩ := id hH; obtain ⟨⟨_, _, _, _, _, _, gS0⟩, _⟩ := id hS; have hI0 := hI.1; have hIi0 := hIi.1
  obtain ⟨i0, i1, i2, i3, i4, i5, i6, i7, i8, i9, i10, i11, i12, i13⟩ := id hI
  obtain ⟨b0, b1, b2_, b3, b4, b5, b6, b7, b8, b9, b10, b11, b12, b13, b14, b15, b16, b17, b18, b19⟩ := id hBd
  have hls := HI.ls hH
  have hla : ru + 6 ≤ B + 9 ∨ B + 9 + 14 ≤ ru := by omega
  have hlb : ru + 6 ≤ B + 23 ∨ B + 23 + 14 ≤ ru := by omega
  refine Ct.intro rfl (by decide) [.ref B, .int x, .int w] (by simp [Value.category]) (Nat.le_of_ble_eq_true rfl) rfl ?_
  refine w_iload_n dX7_log_0 rfl ?_
  refine w_iconst (v := nI 3) dX7_log_1 (by decide) ?_
  refine wS2k dX7_log_2 lk_X7_130 rfl rfl (c_checkWhat) (Nat.le_of_ble_eq_true rfl) (Nat.le_of_ble_eq_true rfl) (Nat.le_of_ble_eq_true rfl) (Nat.le_of_ble_eq_true rfl) ((fun h9 n9 h8 => ⟨XOut.no (j := 0) (by rw [xk1, if_neg h9]) rfl, hH.x, FH.x h8⟩)) (fun ok_2 => ?_)
  obtain ⟨j, hj8, hj9, rfl⟩ := in_L (by omega) (by omega) ok_2
  refine w_iload_n dX7_log_5 rfl ?_
  refine w_ifN_lt (tgt := 23) dX7_log_6 (by decide) (fun c_6 => ?_) (fun c_6 => ?_)
  · skip
    refine w_iconst (v := (-1)) dX7_log_23 (by decide) ?_
    refine w_iret dX7_log_24 rfl (Nat.le_of_ble_eq_true rfl) (Nat.le_of_ble_eq_true rfl) ?_
    refine ⟨XOut.ok (by rw [xk1, if_pos ok_2]) ?_, hH, FH.rf⟩
    first
      | (rw [logV, if_pos c_6]; done)
      | (rw [logV, if_neg c_6, if_neg (fun h => absurd h c_20)]; done)
      | (rw [logV, if_neg c_6, if_pos c_20, ix_nI (by omega), ix_nI (by omega)]; rfl)
  · skip
    refine w_iload_n dX7_log_9 rfl ?_
    refine w_aload_n dX7_log_10 rfl ?_
    refine w_getf dX7_log_11 fl_X7_37 (by first | assumption | exact gs_at | (rw [gs_ne (by omega)]; (first | assumption | exact gs_at | (rw [gs_ne (by omega)]; (first | assumption | exact gs_at | (rw [gs_ne (by omega)]; (first | assumption | exact gs_at | (rw [gs_ne (by omega)]; (first | assumption | exact gs_at))))))))) rfl ?_
    refine w_getf dX7_log_14 fl_X7_335 (by first | assumption | exact gs_at | (rw [gs_ne (by omega)]; (first | assumption | exact gs_at | (rw [gs_ne (by omega)]; (first | assumption | exact gs_at | (rw [gs_ne (by omega)]; (first | assumption | exact gs_at | (rw [gs_ne (by omega)]; (first | assumption | exact gs_at))))))))) rfl ?_
    refine w_getf dX7_log_17 fl_X7_339 (by first | assumption | exact gs_at | (rw [gs_ne (by omega)]; (first | assumption | exact gs_at | (rw [gs_ne (by omega)]; (first | assumption | exact gs_at | (rw [gs_ne (by omega)]; (first | assumption | exact gs_at | (rw [gs_ne (by omega)]; (first | assumption | exact gs_at))))))))) rfl ?_
    refine w_icmp_lt (tgt := 25) dX7_log_20 (by decide) (fun c_20 => ?_) (fun c_20 => ?_)
    · skip
      obtain ⟨i, hi9, rfl⟩ := in_N (n := T 12 6) (by omega) ⟨c_6, c_20⟩
      refine w_aload_n dX7_log_25 rfl ?_
      refine w_getf dX7_log_26 fl_X7_37 (by first | assumption | exact gs_at | (rw [gs_ne (by omega)]; (first | assumption | exact gs_at | (rw [gs_ne (by omega)]; (first | assumption | exact gs_at | (rw [gs_ne (by omega)]; (first | assumption | exact gs_at | (rw [gs_ne (by omega)]; (first | assumption | exact gs_at))))))))) rfl ?_
      refine w_getf dX7_log_29 fl_X7_335 (by first | assumption | exact gs_at | (rw [gs_ne (by omega)]; (first | assumption | exact gs_at | (rw [gs_ne (by omega)]; (first | assumption | exact gs_at | (rw [gs_ne (by omega)]; (first | assumption | exact gs_at | (rw [gs_ne (by omega)]; (first | assumption | exact gs_at))))))))) rfl ?_
      refine w_iload_n dX7_log_32 rfl ?_
      refine w_iload_n dX7_log_33 rfl ?_
      refine wV2u dX7_log_34 lk_X7_344 rfl (by first | assumption | exact gs_at | (rw [gs_ne (by omega)]; (first | assumption | exact gs_at | (rw [gs_ne (by omega)]; (first | assumption | exact gs_at | (rw [gs_ne (by omega)]; (first | assumption | exact gs_at | (rw [gs_ne (by omega)]; (first | assumption | exact gs_at))))))))) rfl rfl (c_cell hI hBd (by omega) (by omega)) (Nat.le_of_ble_eq_true rfl) (Nat.le_of_ble_eq_true rfl) (Nat.le_of_ble_eq_true rfl) (Nat.le_of_ble_eq_true rfl) ?_
      refine w_iret dX7_log_37 rfl (Nat.le_of_ble_eq_true rfl) (Nat.le_of_ble_eq_true rfl) ?_
      refine ⟨XOut.ok (by rw [xk1, if_pos ok_2]) ?_, hH, FH.rf⟩
      first
        | (rw [logV, if_pos c_6]; done)
        | (rw [logV, if_neg c_6, if_neg (fun h => absurd h c_20)]; done)
        | (rw [logV, if_neg c_6, if_pos c_20, ix_nI (by omega), ix_nI (by omega)]; rfl)
    · skip
      refine w_iconst (v := (-1)) dX7_log_23 (by decide) ?_
      refine w_iret dX7_log_24 rfl (Nat.le_of_ble_eq_true rfl) (Nat.le_of_ble_eq_true rfl) ?_
      refine ⟨XOut.ok (by rw [xk1, if_pos ok_2]) ?_, hH, FH.rf⟩
      first
        | (rw [logV, if_pos c_6]; done)
        | (rw [logV, if_neg c_6, if_neg (fun h => absurd h c_20)]; done)
        | (rw [logV, if_neg c_6, if_pos c_20, ix_nI (by omega), ix_nI (by omega)]; rfl)
theorem HI.obj2 {G : AH} {B tn im nw rm ru sp : Nat} {f : Nat → Nat} {wb sd si : Int32} {T Ti : ST} {D Di : LD} {P : Nat → ST × Int32} (h : HI G B tn f wb T sd D im Ti si Di nw rm P ru sp) {tn1 im1 nw1 rm1 tn2 im2 nw2 rm2 : Nat} {wb1 wb2 : Int32} (h1 : tn1 ≤ 400 ∧ im1 ≤ 1 ∧ nw1 < 12 ∧ rm1 ≤ 12) (hb : tn2 ≤ 400 ∧ im2 ≤ 1 ∧ nw2 < 12 ∧ rm2 ≤ 12) : HI (gs (gs G B (hO B (tn1) (wb1) ru sp (im1) (nw1) (rm1))) B (hO B (tn2) (wb2) ru sp (im2) (nw2) (rm2))) B (tn2) f (wb2) T sd D (im2) Ti si Di (nw2) (rm2) P ru sp := (h.obj (tn2 := tn1) (im2 := im1) (nw2 := nw1) (rm2 := rm1) (wb2 := wb1) h1).obj hb
theorem c_undo {E : EV} {G : AH} {B tn im nw rm ru sp : Nat} {f : Nat → Nat} {wb sd si : Int32} {T Ti : ST} {D Di : LD} {P : Nat → ST × Int32}  (hH : HI G B tn f wb T sd D im Ti si Di nw rm P ru sp)  : Ci E 5 kX7_undo [.ref B] G (fun r G1 => FH G G1 B ∧ ((rm = 0 ∧ r = nI 0 ∧ HI G1 B tn f wb T sd D im Ti si Di nw rm P ru sp) ∨ (0 < rm ∧ r = nI 1 ∧ HI G1 B tn f wb ((P nw).1) ((P nw).2) D im Ti si Di ((nw + 11) % 12) (rm - 1) P ru sp))) := by
  obtain ⟨hB, ⟨htn, him, hnw, hrm⟩, hT, hRd, ⟨hI, hBd⟩, hS, ⟨hL, hD, hSp, hrs⟩, ⟨hIi, hBi, hLi, hDi⟩, ⟨hPa, hPi⟩, ⟨⟨we, hwe⟩, hSm, hSv, ⟨od, hod⟩⟩⟩ := id hH; obtain ⟨⟨_, _, _, _, _, _, gS0⟩, _⟩ := id hS; have hI0 := hI.1; have hIi0 := hIi.1
  obtain ⟨i0, i1, i2, i3, i4, i5, i6, i7, i8, i9, i10, i11, i12, i13⟩ := id hI
  obtain ⟨b0, b1, b2_, b3, b4, b5, b6, b7, b8, b9, b10, b11, b12, b13, b14, b15, b16, b17, b18, b19⟩ := id hBd
  have hls := HI.ls hH
  have hla : ru + 6 ≤ B + 9 ∨ B + 9 + 14 ≤ ru := by omega
  have hlb : ru + 6 ≤ B + 23 ∨ B + 23 + 14 ≤ ru := by omega
  refine Ct.intro rfl (by decide) [.ref B] (by simp [Value.category]) (Nat.le_of_ble_eq_true rfl) rfl ?_
  refine w_aload_n dX7_undo_0 rfl ?_
  refine w_getf dX7_undo_1 fl_X7_71 (by first | assumption | exact gs_at | (rw [gs_ne (by omega)]; (first | assumption | exact gs_at | (rw [gs_ne (by omega)]; (first | assumption | exact gs_at | (rw [gs_ne (by omega)]; (first | assumption | exact gs_at | (rw [gs_ne (by omega)]; (first | assumption | exact gs_at))))))))) rfl ?_
  refine w_ifN_le (tgt := 26) dX7_undo_4 (by decide) (fun c_4 => ?_) (fun c_4 => ?_)
  · try simp (disch := omega) only [nI_b2, Decidable.not_not, nI_ltI, nI_leI, nI_eq, ge_iff_le, gt_iff_lt, ne_eq, Nat.not_lt, Nat.not_le] at c_4
    refine w_iconst (v := nI 0) dX7_undo_26 (by decide) ?_
    refine w_zret dX7_undo_27 rfl rfl (Nat.le_of_ble_eq_true rfl) (Nat.le_of_ble_eq_true rfl) ?_
    first
      | exact ⟨_, rfl, FH.rf, Or.inl ⟨by omega, rfl, hH⟩⟩
      | exact ⟨_, rfl, hFH.tr ((FH.gs (Nat.le_refl _) (by omega)).tr (FH.gs (Nat.le_refl _) (by omega))), Or.inr ⟨by omega, rfl, by rw [show (nw + 11) % 12 = 11 by omega]; exact hH.obj2 (by omega) (by omega)⟩⟩
      | exact ⟨_, rfl, hFH.tr ((FH.gs (Nat.le_refl _) (by omega)).tr (FH.gs (Nat.le_refl _) (by omega))), Or.inr ⟨by omega, rfl, by rw [show (nw + 11) % 12 = nw - 1 by omega]; exact hH.obj2 (by omega) (by omega)⟩⟩
  · try simp (disch := omega) only [nI_b2, Decidable.not_not, nI_ltI, nI_leI, nI_eq, ge_iff_le, gt_iff_lt, ne_eq, Nat.not_lt, Nat.not_le] at c_4
    refine w_aload_n dX7_undo_7 rfl ?_
    refine w_getf dX7_undo_8 fl_X7_68 (by first | assumption | exact gs_at | (rw [gs_ne (by omega)]; (first | assumption | exact gs_at | (rw [gs_ne (by omega)]; (first | assumption | exact gs_at | (rw [gs_ne (by omega)]; (first | assumption | exact gs_at | (rw [gs_ne (by omega)]; (first | assumption | exact gs_at))))))))) rfl ?_
    refine w_ifN_lt (tgt := 26) dX7_undo_11 (by decide) (fun c_11 => ?_) (fun c_11 => ?_)
    · try simp (disch := omega) only [nI_b2, Decidable.not_not, nI_ltI, nI_leI, nI_eq, ge_iff_le, gt_iff_lt, ne_eq, Nat.not_lt, Nat.not_le] at c_11
      exact absurd c_11 (by omega)
    · try simp (disch := omega) only [nI_b2, Decidable.not_not, nI_ltI, nI_leI, nI_eq, ge_iff_le, gt_iff_lt, ne_eq, Nat.not_lt, Nat.not_le] at c_11
      refine w_aload_n dX7_undo_14 rfl ?_
      refine w_getf dX7_undo_15 fl_X7_68 (by first | assumption | exact gs_at | (rw [gs_ne (by omega)]; (first | assumption | exact gs_at | (rw [gs_ne (by omega)]; (first | assumption | exact gs_at | (rw [gs_ne (by omega)]; (first | assumption | exact gs_at | (rw [gs_ne (by omega)]; (first | assumption | exact gs_at))))))))) rfl ?_
      refine w_aload_n dX7_undo_18 rfl ?_
      refine w_getf dX7_undo_19 fl_X7_64 (by first | assumption | exact gs_at | (rw [gs_ne (by omega)]; (first | assumption | exact gs_at | (rw [gs_ne (by omega)]; (first | assumption | exact gs_at | (rw [gs_ne (by omega)]; (first | assumption | exact gs_at | (rw [gs_ne (by omega)]; (first | assumption | exact gs_at))))))))) rfl ?_
      refine w_alenO dX7_undo_22 (by first | assumption | exact gs_at | (rw [gs_ne (by omega)]; (first | assumption | exact gs_at | (rw [gs_ne (by omega)]; (first | assumption | exact gs_at | (rw [gs_ne (by omega)]; (first | assumption | exact gs_at | (rw [gs_ne (by omega)]; (first | assumption | exact gs_at))))))))) ?_
      refine w_icmp_lt (tgt := 28) dX7_undo_23 (by decide) (fun c_23 => ?_) (fun c_23 => ?_)
      · try simp (disch := omega) only [nI_b2, Decidable.not_not, nI_ltI, nI_leI, nI_eq, ge_iff_le, gt_iff_lt, ne_eq, Nat.not_lt, Nat.not_le] at c_23
        have hP0 := (hPi nw hnw).1.1
        refine w_aload_n dX7_undo_28 rfl ?_
        refine w_getf dX7_undo_29 fl_X7_37 (by first | assumption | exact gs_at | (rw [gs_ne (by omega)]; (first | assumption | exact gs_at | (rw [gs_ne (by omega)]; (first | assumption | exact gs_at | (rw [gs_ne (by omega)]; (first | assumption | exact gs_at | (rw [gs_ne (by omega)]; (first | assumption | exact gs_at))))))))) rfl ?_
        refine w_aload_n dX7_undo_32 rfl ?_
        refine w_getf dX7_undo_33 fl_X7_64 (by first | assumption | exact gs_at | (rw [gs_ne (by omega)]; (first | assumption | exact gs_at | (rw [gs_ne (by omega)]; (first | assumption | exact gs_at | (rw [gs_ne (by omega)]; (first | assumption | exact gs_at | (rw [gs_ne (by omega)]; (first | assumption | exact gs_at))))))))) rfl ?_
        refine w_aload_n dX7_undo_36 rfl ?_
        refine w_getf dX7_undo_37 fl_X7_68 (by first | assumption | exact gs_at | (rw [gs_ne (by omega)]; (first | assumption | exact gs_at | (rw [gs_ne (by omega)]; (first | assumption | exact gs_at | (rw [gs_ne (by omega)]; (first | assumption | exact gs_at | (rw [gs_ne (by omega)]; (first | assumption | exact gs_at))))))))) rfl ?_
        refine w_aaload dX7_undo_40 (by first | assumption | exact gs_at | (rw [gs_ne (by omega)]; (first | assumption | exact gs_at | (rw [gs_ne (by omega)]; (first | assumption | exact gs_at | (rw [gs_ne (by omega)]; (first | assumption | exact gs_at | (rw [gs_ne (by omega)]; (first | assumption | exact gs_at))))))))) (by first | assumption | exact vp_in_nI (by omega) (by omega) | exact vp_in_nI (by assumption) (by omega)) ?_
        rw [nI_clamp (by omega)]
        refine wV1d dX7_undo_41 lk_X7_94 rfl (by first | assumption | exact gs_at | (rw [gs_ne (by omega)]; (first | assumption | exact gs_at | (rw [gs_ne (by omega)]; (first | assumption | exact gs_at | (rw [gs_ne (by omega)]; (first | assumption | exact gs_at | (rw [gs_ne (by omega)]; (first | assumption | exact gs_at))))))))) rfl rfl (c_copyIsl hI.g (hPi nw hnw).1 (by omega)) (Nat.le_of_ble_eq_true rfl) (Nat.le_of_ble_eq_true rfl) (Nat.le_of_ble_eq_true rfl) (Nat.le_of_ble_eq_true rfl) (fun G h_41 => ?_)
        obtain ⟨hI9, hF9⟩ := h_41
        have hH := hH.now hI9 (hPi nw hnw).2 hF9
        have hFH := hF9.toH (B := B) (by omega) (by omega)
        obtain ⟨hB, ⟨htn, him, hnw, hrm⟩, hT, hRd, ⟨hI, hBd⟩, hS, ⟨hL, hD, hSp, hrs⟩, ⟨hIi, hBi, hLi, hDi⟩, ⟨hPa, hPi⟩, ⟨⟨we, hwe⟩, hSm, hSv, ⟨od, hod⟩⟩⟩ := id hH; obtain ⟨⟨_, _, _, _, _, _, gS0⟩, _⟩ := id hS; have hI0 := hI.1; have hIi0 := hIi.1
        refine w_aload_n dX7_undo_44 rfl ?_
        refine w_aload_n dX7_undo_45 rfl ?_
        refine w_getf dX7_undo_46 fl_X7_68 (by first | assumption | exact gs_at | (rw [gs_ne (by omega)]; (first | assumption | exact gs_at | (rw [gs_ne (by omega)]; (first | assumption | exact gs_at | (rw [gs_ne (by omega)]; (first | assumption | exact gs_at | (rw [gs_ne (by omega)]; (first | assumption | exact gs_at))))))))) rfl ?_
        refine w_ifN_ne (tgt := 57) dX7_undo_49 (by decide) (fun c_49 => ?_) (fun c_49 => ?_)
        · try simp (disch := omega) only [nI_b2, Decidable.not_not, nI_ltI, nI_leI, nI_eq, ge_iff_le, gt_iff_lt, ne_eq, Nat.not_lt, Nat.not_le] at c_49
          refine w_aload_n dX7_undo_57 rfl ?_
          refine w_getf dX7_undo_58 fl_X7_68 (by first | assumption | exact gs_at | (rw [gs_ne (by omega)]; (first | assumption | exact gs_at | (rw [gs_ne (by omega)]; (first | assumption | exact gs_at | (rw [gs_ne (by omega)]; (first | assumption | exact gs_at | (rw [gs_ne (by omega)]; (first | assumption | exact gs_at))))))))) rfl ?_
          refine w_iconst (v := nI 1) dX7_undo_61 (by decide) ?_
          refine w_isubN (by omega) dX7_undo_62 ?_
          refine w_putf dX7_undo_63 fl_X7_68 (by first | assumption | exact gs_at | (rw [gs_ne (by omega)]; (first | assumption | exact gs_at | (rw [gs_ne (by omega)]; (first | assumption | exact gs_at | (rw [gs_ne (by omega)]; (first | assumption | exact gs_at | (rw [gs_ne (by omega)]; (first | assumption | exact gs_at))))))))) (by simp) rfl rfl ?_
          refine w_aload_n dX7_undo_66 rfl ?_
          refine w_dup dX7_undo_67 rfl ?_
          refine w_getf dX7_undo_68 fl_X7_71 (by first | assumption | exact gs_at | (rw [gs_ne (by omega)]; (first | assumption | exact gs_at | (rw [gs_ne (by omega)]; (first | assumption | exact gs_at | (rw [gs_ne (by omega)]; (first | assumption | exact gs_at | (rw [gs_ne (by omega)]; (first | assumption | exact gs_at))))))))) rfl ?_
          refine w_iconst (v := nI 1) dX7_undo_71 (by decide) ?_
          refine w_isubN (by omega) dX7_undo_72 ?_
          refine w_putf dX7_undo_73 fl_X7_71 (by first | assumption | exact gs_at | (rw [gs_ne (by omega)]; (first | assumption | exact gs_at | (rw [gs_ne (by omega)]; (first | assumption | exact gs_at | (rw [gs_ne (by omega)]; (first | assumption | exact gs_at | (rw [gs_ne (by omega)]; (first | assumption | exact gs_at))))))))) (by simp) rfl rfl ?_
          refine w_iconst (v := nI 1) dX7_undo_76 (by decide) ?_
          refine w_zret dX7_undo_77 rfl rfl (Nat.le_of_ble_eq_true rfl) (Nat.le_of_ble_eq_true rfl) ?_
          first
            | exact ⟨_, rfl, FH.rf, Or.inl ⟨by omega, rfl, hH⟩⟩
            | exact ⟨_, rfl, hFH.tr ((FH.gs (Nat.le_refl _) (by omega)).tr (FH.gs (Nat.le_refl _) (by omega))), Or.inr ⟨by omega, rfl, by rw [show (nw + 11) % 12 = 11 by omega]; exact hH.obj2 (by omega) (by omega)⟩⟩
            | exact ⟨_, rfl, hFH.tr ((FH.gs (Nat.le_refl _) (by omega)).tr (FH.gs (Nat.le_refl _) (by omega))), Or.inr ⟨by omega, rfl, by rw [show (nw + 11) % 12 = nw - 1 by omega]; exact hH.obj2 (by omega) (by omega)⟩⟩
        · try simp (disch := omega) only [nI_b2, Decidable.not_not, nI_ltI, nI_leI, nI_eq, ge_iff_le, gt_iff_lt, ne_eq, Nat.not_lt, Nat.not_le] at c_49
          refine w_bipush (v := nI 11) dX7_undo_52 (by decide) ?_
          refine w_goto (tgt := 63) dX7_undo_54 (by decide) ?_
          refine w_putf dX7_undo_63 fl_X7_68 (by first | assumption | exact gs_at | (rw [gs_ne (by omega)]; (first | assumption | exact gs_at | (rw [gs_ne (by omega)]; (first | assumption | exact gs_at | (rw [gs_ne (by omega)]; (first | assumption | exact gs_at | (rw [gs_ne (by omega)]; (first | assumption | exact gs_at))))))))) (by simp) rfl rfl ?_
          refine w_aload_n dX7_undo_66 rfl ?_
          refine w_dup dX7_undo_67 rfl ?_
          refine w_getf dX7_undo_68 fl_X7_71 (by first | assumption | exact gs_at | (rw [gs_ne (by omega)]; (first | assumption | exact gs_at | (rw [gs_ne (by omega)]; (first | assumption | exact gs_at | (rw [gs_ne (by omega)]; (first | assumption | exact gs_at | (rw [gs_ne (by omega)]; (first | assumption | exact gs_at))))))))) rfl ?_
          refine w_iconst (v := nI 1) dX7_undo_71 (by decide) ?_
          refine w_isubN (by omega) dX7_undo_72 ?_
          refine w_putf dX7_undo_73 fl_X7_71 (by first | assumption | exact gs_at | (rw [gs_ne (by omega)]; (first | assumption | exact gs_at | (rw [gs_ne (by omega)]; (first | assumption | exact gs_at | (rw [gs_ne (by omega)]; (first | assumption | exact gs_at | (rw [gs_ne (by omega)]; (first | assumption | exact gs_at))))))))) (by simp) rfl rfl ?_
          refine w_iconst (v := nI 1) dX7_undo_76 (by decide) ?_
          refine w_zret dX7_undo_77 rfl rfl (Nat.le_of_ble_eq_true rfl) (Nat.le_of_ble_eq_true rfl) ?_
          first
            | exact ⟨_, rfl, FH.rf, Or.inl ⟨by omega, rfl, hH⟩⟩
            | exact ⟨_, rfl, hFH.tr ((FH.gs (Nat.le_refl _) (by omega)).tr (FH.gs (Nat.le_refl _) (by omega))), Or.inr ⟨by omega, rfl, by rw [show (nw + 11) % 12 = 11 by omega]; exact hH.obj2 (by omega) (by omega)⟩⟩
            | exact ⟨_, rfl, hFH.tr ((FH.gs (Nat.le_refl _) (by omega)).tr (FH.gs (Nat.le_refl _) (by omega))), Or.inr ⟨by omega, rfl, by rw [show (nw + 11) % 12 = nw - 1 by omega]; exact hH.obj2 (by omega) (by omega)⟩⟩
      · try simp (disch := omega) only [nI_b2, Decidable.not_not, nI_ltI, nI_leI, nI_eq, ge_iff_le, gt_iff_lt, ne_eq, Nat.not_lt, Nat.not_le] at c_23
        refine w_iconst (v := nI 0) dX7_undo_26 (by decide) ?_
        refine w_zret dX7_undo_27 rfl rfl (Nat.le_of_ble_eq_true rfl) (Nat.le_of_ble_eq_true rfl) ?_
        first
          | exact ⟨_, rfl, FH.rf, Or.inl ⟨by omega, rfl, hH⟩⟩
          | exact ⟨_, rfl, hFH.tr ((FH.gs (Nat.le_refl _) (by omega)).tr (FH.gs (Nat.le_refl _) (by omega))), Or.inr ⟨by omega, rfl, by rw [show (nw + 11) % 12 = 11 by omega]; exact hH.obj2 (by omega) (by omega)⟩⟩
          | exact ⟨_, rfl, hFH.tr ((FH.gs (Nat.le_refl _) (by omega)).tr (FH.gs (Nat.le_refl _) (by omega))), Or.inr ⟨by omega, rfl, by rw [show (nw + 11) % 12 = nw - 1 by omega]; exact hH.obj2 (by omega) (by omega)⟩⟩
theorem HI.img {G G1 : AH} {B tn im nw rm ru sp : Nat} {f : Nat → Nat} {wb sd si : Int32} {T Ti : ST} {D Di : LD} {P : Nat → ST × Int32} (h : HI G B tn f wb T sd D im Ti si Di nw rm P ru sp) {T2 : ST} {s2 : Int32} {D2 : LD} (hI : Isl G1 (B + 49) T2 s2) (hB : Bd T2) (hL : Lw G1 (B + 63) D2) (hD : WFD D2) (e : ∀ q, B ≤ q → (q < B + 49 ∨ B + 69 ≤ q) → G1.1 q = G.1 q) : HI G1 B tn f wb T sd D im (T2) (s2) (D2) nw rm P ru sp := by
  exact ⟨(e _ (by omega) (by omega)).trans h.1, h.2.1, h.2.2.1.mv (e _ (by omega) (by omega)), h.2.2.2.1.mv (fun q a b => e q (by omega) (by omega)), h.2.2.2.2.1.mv (fun q a b => e q (by omega) (by omega)), h.2.2.2.2.2.1.same (fun q a b => e q (by omega) (by omega)), h.2.2.2.2.2.2.1.mv (fun q a b => e q (by omega) (by omega)), ⟨hI, hB, hL, hD⟩, h.2.2.2.2.2.2.2.2.1.mv (e _ (by omega) (by omega)) (fun q a b => e q (by omega) (by omega)), h.2.2.2.2.2.2.2.2.2.mv (fun q a b => e q (by omega) (by omega))⟩
theorem HI.rule {G G1 : AH} {B tn im nw rm ru sp : Nat} {f : Nat → Nat} {wb sd si : Int32} {T Ti : ST} {D Di : LD} {P : Nat → ST × Int32} (h : HI G B tn f wb T sd D im Ti si Di nw rm P ru sp) {D2 : LD} (hL : Lw G1 ru D2) (hD : WFD D2) (hF : FrW G G1 ru) : HI G1 B tn f wb T sd (D2) im Ti si Di nw rm P ru sp := by
  have hls := h.ls
  have hrs := h.2.2.2.2.2.2.1.2.2.2
  have e : ∀ q, B ≤ q → (q < ru ∨ ru + 6 ≤ q) → G1.1 q = G.1 q := fun q a b => hF.2 q b
  obtain ⟨X, hX, hu⟩ := h.2.2.2.2.2.2.1.2.2.1
  exact ⟨(e _ (by omega) (by omega)).trans h.1, h.2.1, h.2.2.1.mv (e _ (by omega) (by omega)), h.2.2.2.1.mv (fun q a b => e q (by omega) (by omega)), h.2.2.2.2.1.mv (fun q a b => e q (by omega) (by omega)), h.2.2.2.2.2.1.same (fun q a b => e q (by omega) (by omega)), ⟨hL, hD, ⟨X, hX.fr (fun q a b => e q (by omega) (by omega)), hu⟩, hrs⟩, h.2.2.2.2.2.2.2.1.mv (fun q a b => e q (by omega) (by omega)), h.2.2.2.2.2.2.2.2.1.mv (e _ (by omega) (by omega)) (fun q a b => e q (by omega) (by omega)), h.2.2.2.2.2.2.2.2.2.mv (fun q a b => e q (by omega) (by omega))⟩
theorem c_image {E : EV} {G : AH} {B tn im nw rm ru sp : Nat} {f : Nat → Nat} {wb sd si : Int32} {T Ti : ST} {D Di : LD} {P : Nat → ST × Int32}  (hH : HI G B tn f wb T sd D im Ti si Di nw rm P ru sp)  : Cd E 5 kX7_image [.ref B] G (fun G1 => FH G G1 B ∧ HI G1 B tn f wb T sd D (1) (T) (sd) (D) nw rm P ru sp) := by
  obtain ⟨hB, ⟨htn, him, hnw, hrm⟩, hT, hRd, ⟨hI, hBd⟩, hS, ⟨hL, hD, hSp, hrs⟩, ⟨hIi, hBi, hLi, hDi⟩, ⟨hPa, hPi⟩, ⟨⟨we, hwe⟩, hSm, hSv, ⟨od, hod⟩⟩⟩ := id hH; obtain ⟨⟨_, _, _, _, _, _, gS0⟩, _⟩ := id hS; have hI0 := hI.1; have hIi0 := hIi.1
  obtain ⟨i0, i1, i2, i3, i4, i5, i6, i7, i8, i9, i10, i11, i12, i13⟩ := id hI
  obtain ⟨b0, b1, b2_, b3, b4, b5, b6, b7, b8, b9, b10, b11, b12, b13, b14, b15, b16, b17, b18, b19⟩ := id hBd
  have hls := HI.ls hH
  have hla : ru + 6 ≤ B + 9 ∨ B + 9 + 14 ≤ ru := by omega
  have hlb : ru + 6 ≤ B + 23 ∨ B + 23 + 14 ≤ ru := by omega
  have hL0 := hL.1
  have hLi0 := hLi.1
  refine Ct.intro rfl (by decide) [.ref B] (by simp [Value.category]) (Nat.le_of_ble_eq_true rfl) rfl ?_
  refine w_aload_n dX7_image_0 rfl ?_
  refine w_getf dX7_image_1 fl_X7_58 (by first | assumption | exact gs_at | (rw [gs_ne (by omega)]; (first | assumption | exact gs_at | (rw [gs_ne (by omega)]; (first | assumption | exact gs_at | (rw [gs_ne (by omega)]; (first | assumption | exact gs_at | (rw [gs_ne (by omega)]; (first | assumption | exact gs_at))))))))) rfl ?_
  refine w_aload_n dX7_image_4 rfl ?_
  refine w_getf dX7_image_5 fl_X7_37 (by first | assumption | exact gs_at | (rw [gs_ne (by omega)]; (first | assumption | exact gs_at | (rw [gs_ne (by omega)]; (first | assumption | exact gs_at | (rw [gs_ne (by omega)]; (first | assumption | exact gs_at | (rw [gs_ne (by omega)]; (first | assumption | exact gs_at))))))))) rfl ?_
  refine wV1d dX7_image_8 lk_X7_94 rfl (by first | assumption | exact gs_at | (rw [gs_ne (by omega)]; (first | assumption | exact gs_at | (rw [gs_ne (by omega)]; (first | assumption | exact gs_at | (rw [gs_ne (by omega)]; (first | assumption | exact gs_at | (rw [gs_ne (by omega)]; (first | assumption | exact gs_at))))))))) rfl rfl (c_copyIsl hIi.g hI (by omega)) (Nat.le_of_ble_eq_true rfl) (Nat.le_of_ble_eq_true rfl) (Nat.le_of_ble_eq_true rfl) (Nat.le_of_ble_eq_true rfl) (fun G h_8 => ?_)
  obtain ⟨hJ1, hF1⟩ := h_8
  have hH1 := hH.img hJ1 hBd (hLi.same (fun q a b => hF1.2 q (by omega))) hDi (fun q a b => hF1.2 q (by omega))
  have hB1 := hH1.1
  have hLi1 := hH1.2.2.2.2.2.2.2.1.2.2.1
  have hL1 := hH1.2.2.2.2.2.2.1.1
  have hLi0 := hLi1.1
  have hL0 := hL1.1
  refine w_aload_n dX7_image_11 rfl ?_
  refine w_getf dX7_image_12 fl_X7_61 (by first | assumption | exact gs_at | (rw [gs_ne (by omega)]; (first | assumption | exact gs_at | (rw [gs_ne (by omega)]; (first | assumption | exact gs_at | (rw [gs_ne (by omega)]; (first | assumption | exact gs_at | (rw [gs_ne (by omega)]; (first | assumption | exact gs_at))))))))) rfl ?_
  refine w_aload_n dX7_image_15 rfl ?_
  refine w_getf dX7_image_16 fl_X7_47 (by first | assumption | exact gs_at | (rw [gs_ne (by omega)]; (first | assumption | exact gs_at | (rw [gs_ne (by omega)]; (first | assumption | exact gs_at | (rw [gs_ne (by omega)]; (first | assumption | exact gs_at | (rw [gs_ne (by omega)]; (first | assumption | exact gs_at))))))))) rfl ?_
  refine wV1d dX7_image_19 lk_X7_347 rfl (by first | assumption | exact gs_at | (rw [gs_ne (by omega)]; (first | assumption | exact gs_at | (rw [gs_ne (by omega)]; (first | assumption | exact gs_at | (rw [gs_ne (by omega)]; (first | assumption | exact gs_at | (rw [gs_ne (by omega)]; (first | assumption | exact gs_at))))))))) rfl rfl (c_copyLaw hLi1.g hL1.g (by omega)) (Nat.le_of_ble_eq_true rfl) (Nat.le_of_ble_eq_true rfl) (Nat.le_of_ble_eq_true rfl) (Nat.le_of_ble_eq_true rfl) (fun G h_19 => ?_)
  obtain ⟨hL2, hF2⟩ := h_19
  have hH2 := hH1.img (hJ1.same (fun q a b => hF2.2 q (by omega))) hBd (Lg.w D hL2 rfl) hD (fun q a b => hF2.2 q (by omega))
  have hB2 := hH2.1
  refine w_aload_n dX7_image_22 rfl ?_
  refine w_iconst (v := nI 1) dX7_image_23 (by decide) ?_
  refine w_putf dX7_image_24 fl_X7_54 (by first | assumption | exact gs_at | (rw [gs_ne (by omega)]; (first | assumption | exact gs_at | (rw [gs_ne (by omega)]; (first | assumption | exact gs_at | (rw [gs_ne (by omega)]; (first | assumption | exact gs_at | (rw [gs_ne (by omega)]; (first | assumption | exact gs_at))))))))) (by simp) rfl rfl ?_
  refine w_vret dX7_image_27 rfl (Nat.le_of_ble_eq_true rfl) (Nat.le_of_ble_eq_true rfl) ?_
  exact ⟨rfl, (hF1.toH (by omega) (by omega)).tr ((hF2.toH (by omega) (by omega)).tr (FH.gs (Nat.le_refl _) (by omega))), hH2.obj (by omega)⟩
theorem c_back {E : EV} {G : AH} {B tn im nw rm ru sp : Nat} {f : Nat → Nat} {wb sd si : Int32} {T Ti : ST} {D Di : LD} {P : Nat → ST × Int32}  (hH : HI G B tn f wb T sd D im Ti si Di nw rm P ru sp)  : Ci E 5 kX7_back [.ref B] G (fun r G1 => FH G G1 B ∧ ((im = 0 ∧ r = nI 0 ∧ HI G1 B tn f wb T sd D im Ti si Di nw rm P ru sp) ∨ (im = 1 ∧ r = nI 1 ∧ HI G1 B tn f wb (Ti) (si) (Di) im Ti si Di nw (0) P ru sp))) := by
  obtain ⟨hB, ⟨htn, him, hnw, hrm⟩, hT, hRd, ⟨hI, hBd⟩, hS, ⟨hL, hD, hSp, hrs⟩, ⟨hIi, hBi, hLi, hDi⟩, ⟨hPa, hPi⟩, ⟨⟨we, hwe⟩, hSm, hSv, ⟨od, hod⟩⟩⟩ := id hH; obtain ⟨⟨_, _, _, _, _, _, gS0⟩, _⟩ := id hS; have hI0 := hI.1; have hIi0 := hIi.1
  obtain ⟨i0, i1, i2, i3, i4, i5, i6, i7, i8, i9, i10, i11, i12, i13⟩ := id hI
  obtain ⟨b0, b1, b2_, b3, b4, b5, b6, b7, b8, b9, b10, b11, b12, b13, b14, b15, b16, b17, b18, b19⟩ := id hBd
  have hls := HI.ls hH
  have hla : ru + 6 ≤ B + 9 ∨ B + 9 + 14 ≤ ru := by omega
  have hlb : ru + 6 ≤ B + 23 ∨ B + 23 + 14 ≤ ru := by omega
  have hL0 := hL.1
  have hLi0 := hLi.1
  refine Ct.intro rfl (by decide) [.ref B] (by simp [Value.category]) (Nat.le_of_ble_eq_true rfl) rfl ?_
  refine w_aload_n dX7_back_0 rfl ?_
  refine w_getf dX7_back_1 fl_X7_54 (by first | assumption | exact gs_at | (rw [gs_ne (by omega)]; (first | assumption | exact gs_at | (rw [gs_ne (by omega)]; (first | assumption | exact gs_at | (rw [gs_ne (by omega)]; (first | assumption | exact gs_at | (rw [gs_ne (by omega)]; (first | assumption | exact gs_at))))))))) rfl ?_
  refine w_ifN_ne (tgt := 9) dX7_back_4 (by decide) (fun c_4 => ?_) (fun c_4 => ?_)
  · try simp (disch := omega) only [nI_b2, Decidable.not_not, nI_ltI, nI_leI, nI_eq, ge_iff_le, gt_iff_lt, ne_eq, Nat.not_lt, Nat.not_le] at c_4
    refine w_aload_n dX7_back_9 rfl ?_
    refine w_getf dX7_back_10 fl_X7_37 (by first | assumption | exact gs_at | (rw [gs_ne (by omega)]; (first | assumption | exact gs_at | (rw [gs_ne (by omega)]; (first | assumption | exact gs_at | (rw [gs_ne (by omega)]; (first | assumption | exact gs_at | (rw [gs_ne (by omega)]; (first | assumption | exact gs_at))))))))) rfl ?_
    refine w_aload_n dX7_back_13 rfl ?_
    refine w_getf dX7_back_14 fl_X7_58 (by first | assumption | exact gs_at | (rw [gs_ne (by omega)]; (first | assumption | exact gs_at | (rw [gs_ne (by omega)]; (first | assumption | exact gs_at | (rw [gs_ne (by omega)]; (first | assumption | exact gs_at | (rw [gs_ne (by omega)]; (first | assumption | exact gs_at))))))))) rfl ?_
    refine wV1d dX7_back_17 lk_X7_94 rfl (by first | assumption | exact gs_at | (rw [gs_ne (by omega)]; (first | assumption | exact gs_at | (rw [gs_ne (by omega)]; (first | assumption | exact gs_at | (rw [gs_ne (by omega)]; (first | assumption | exact gs_at | (rw [gs_ne (by omega)]; (first | assumption | exact gs_at))))))))) rfl rfl (c_copyIsl hI.g hIi (by omega)) (Nat.le_of_ble_eq_true rfl) (Nat.le_of_ble_eq_true rfl) (Nat.le_of_ble_eq_true rfl) (Nat.le_of_ble_eq_true rfl) (fun G h_17 => ?_)
    obtain ⟨hJ1, hF1⟩ := h_17
    have hH1 := hH.now hJ1 hBi hF1
    have hB1 := hH1.1
    have hLi1 := hH1.2.2.2.2.2.2.2.1.2.2.1
    have hL1 := hH1.2.2.2.2.2.2.1.1
    have hLi0 := hLi1.1
    have hL0 := hL1.1
    refine w_aload_n dX7_back_20 rfl ?_
    refine w_getf dX7_back_21 fl_X7_47 (by first | assumption | exact gs_at | (rw [gs_ne (by omega)]; (first | assumption | exact gs_at | (rw [gs_ne (by omega)]; (first | assumption | exact gs_at | (rw [gs_ne (by omega)]; (first | assumption | exact gs_at | (rw [gs_ne (by omega)]; (first | assumption | exact gs_at))))))))) rfl ?_
    refine w_aload_n dX7_back_24 rfl ?_
    refine w_getf dX7_back_25 fl_X7_61 (by first | assumption | exact gs_at | (rw [gs_ne (by omega)]; (first | assumption | exact gs_at | (rw [gs_ne (by omega)]; (first | assumption | exact gs_at | (rw [gs_ne (by omega)]; (first | assumption | exact gs_at | (rw [gs_ne (by omega)]; (first | assumption | exact gs_at))))))))) rfl ?_
    refine wV1d dX7_back_28 lk_X7_347 rfl (by first | assumption | exact gs_at | (rw [gs_ne (by omega)]; (first | assumption | exact gs_at | (rw [gs_ne (by omega)]; (first | assumption | exact gs_at | (rw [gs_ne (by omega)]; (first | assumption | exact gs_at | (rw [gs_ne (by omega)]; (first | assumption | exact gs_at))))))))) rfl rfl (c_copyLaw hL1.g hLi1.g (by omega)) (Nat.le_of_ble_eq_true rfl) (Nat.le_of_ble_eq_true rfl) (Nat.le_of_ble_eq_true rfl) (Nat.le_of_ble_eq_true rfl) (fun G h_28 => ?_)
    obtain ⟨hL2, hF2⟩ := h_28
    have hH2 := hH1.rule (Lg.w Di hL2 rfl) hDi hF2
    have hB2 := hH2.1
    refine w_aload_n dX7_back_31 rfl ?_
    refine w_iconst (v := nI 0) dX7_back_32 (by decide) ?_
    refine w_putf dX7_back_33 fl_X7_71 (by first | assumption | exact gs_at | (rw [gs_ne (by omega)]; (first | assumption | exact gs_at | (rw [gs_ne (by omega)]; (first | assumption | exact gs_at | (rw [gs_ne (by omega)]; (first | assumption | exact gs_at | (rw [gs_ne (by omega)]; (first | assumption | exact gs_at))))))))) (by simp) rfl rfl ?_
    refine w_iconst (v := nI 1) dX7_back_36 (by decide) ?_
    refine w_zret dX7_back_37 rfl rfl (Nat.le_of_ble_eq_true rfl) (Nat.le_of_ble_eq_true rfl) ?_
    first
      | exact ⟨_, rfl, FH.rf, Or.inl ⟨by omega, rfl, hH⟩⟩
      | exact ⟨_, rfl, (hF1.toH (by omega) (by omega)).tr ((hF2.toH (by omega) (by omega)).tr (FH.gs (Nat.le_refl _) (by omega))), Or.inr ⟨by omega, rfl, hH2.obj (by omega)⟩⟩
  · try simp (disch := omega) only [nI_b2, Decidable.not_not, nI_ltI, nI_leI, nI_eq, ge_iff_le, gt_iff_lt, ne_eq, Nat.not_lt, Nat.not_le] at c_4
    refine w_iconst (v := nI 0) dX7_back_7 (by decide) ?_
    refine w_zret dX7_back_8 rfl rfl (Nat.le_of_ble_eq_true rfl) (Nat.le_of_ble_eq_true rfl) ?_
    first
      | exact ⟨_, rfl, FH.rf, Or.inl ⟨by omega, rfl, hH⟩⟩
      | exact ⟨_, rfl, (hF1.toH (by omega) (by omega)).tr ((hF2.toH (by omega) (by omega)).tr (FH.gs (Nat.le_refl _) (by omega))), Or.inr ⟨by omega, rfl, hH2.obj (by omega)⟩⟩
theorem c_boats {E : EV} {G : AH} {B tn im nw rm ru sp : Nat} {f : Nat → Nat} {wb sd si : Int32} {T Ti : ST} {D Di : LD} {P : Nat → ST × Int32} {x y z : Int32} (hH : HI G B tn f wb T sd D im Ti si Di nw rm P ru sp)  : Ct E 10 3 18 kX7_boats [.ref B, .int x, .int y, .int z] G (fun o G1 => XOut ["java/lang/IllegalArgumentException"] (xk1 (okN 0 (nI 999) x ∧ okN 1 (nI 99) y ∧ okN 1 (nI 9) z)) (nI ((ix x + ix y * ix z - 1) / (ix y * ix z))) o ∧ HI G1 B tn f wb T sd D im Ti si Di nw rm P ru sp ∧ FH G G1 B) := by
  obtain ⟨hB, ⟨htn, him, hnw, hrm⟩, hT, hRd, ⟨hI, hBd⟩, hS, ⟨hL, hD, hSp, hrs⟩, ⟨hIi, hBi, hLi, hDi⟩, ⟨hPa, hPi⟩, ⟨⟨we, hwe⟩, hSm, hSv, ⟨od, hod⟩⟩⟩ := id hH; obtain ⟨⟨_, _, _, _, _, _, gS0⟩, _⟩ := id hS; have hI0 := hI.1; have hIi0 := hIi.1
  obtain ⟨i0, i1, i2, i3, i4, i5, i6, i7, i8, i9, i10, i11, i12, i13⟩ := id hI
  obtain ⟨b0, b1, b2_, b3, b4, b5, b6, b7, b8, b9, b10, b11, b12, b13, b14, b15, b16, b17, b18, b19⟩ := id hBd
  have hls := HI.ls hH
  have hla : ru + 6 ≤ B + 9 ∨ B + 9 + 14 ≤ ru := by omega
  have hlb : ru + 6 ≤ B + 23 ∨ B + 23 + 14 ≤ ru := by omega
  refine Ct.intro rfl (by decide) [.ref B, .int x, .int y, .int z] (by simp [Value.category]) (Nat.le_of_ble_eq_true rfl) rfl ?_
  refine w_iload_n dX7_boats_0 rfl ?_
  refine w_iconst (v := nI 0) dX7_boats_1 (by decide) ?_
  refine w_sipush (v := nI 999) dX7_boats_2 (by decide) ?_
  refine wS3k dX7_boats_5 lk_X7_220 rfl rfl (c_checkNumber) (Nat.le_of_ble_eq_true rfl) (Nat.le_of_ble_eq_true rfl) (Nat.le_of_ble_eq_true rfl) (Nat.le_of_ble_eq_true rfl) ((fun h9 n9 h8 => ⟨XOut.no (j := 0) (by rw [xk1, if_neg (fun h => h9 h.1)]) rfl, hH.x, FH.x h8⟩)) (fun ok_5 => ?_)
  obtain ⟨i, hi8, hi9, rfl⟩ := in_L (by omega) (by omega) ok_5
  refine w_iload_n dX7_boats_8 rfl ?_
  refine w_iconst (v := nI 1) dX7_boats_9 (by decide) ?_
  refine w_bipush (v := nI 99) dX7_boats_10 (by decide) ?_
  refine wS3k dX7_boats_12 lk_X7_220 rfl rfl (c_checkNumber) (Nat.le_of_ble_eq_true rfl) (Nat.le_of_ble_eq_true rfl) (Nat.le_of_ble_eq_true rfl) (Nat.le_of_ble_eq_true rfl) ((fun h9 n9 h8 => ⟨XOut.no (j := 0) (by rw [xk1, if_neg (fun h => h9 h.2.1)]) rfl, hH.x, FH.x h8⟩)) (fun ok_12 => ?_)
  obtain ⟨j, hj8, hj9, rfl⟩ := in_L (by omega) (by omega) ok_12
  refine w_iload_n dX7_boats_15 rfl ?_
  refine w_iconst (v := nI 1) dX7_boats_16 (by decide) ?_
  refine w_bipush (v := nI 9) dX7_boats_17 (by decide) ?_
  refine wS3k dX7_boats_19 lk_X7_220 rfl rfl (c_checkNumber) (Nat.le_of_ble_eq_true rfl) (Nat.le_of_ble_eq_true rfl) (Nat.le_of_ble_eq_true rfl) (Nat.le_of_ble_eq_true rfl) ((fun h9 n9 h8 => ⟨XOut.no (j := 0) (by rw [xk1, if_neg (fun h => h9 h.2.2)]) rfl, hH.x, FH.x h8⟩)) (fun ok_19 => ?_)
  obtain ⟨l, hl8, hl9, rfl⟩ := in_L (by omega) (by omega) ok_19
  have hm1 := Nat.mul_le_mul hj9 hl9
  have hm2 := Nat.mul_le_mul hj8 hl8
  refine w_iload_n dX7_boats_22 rfl ?_
  refine w_iload_n dX7_boats_23 rfl ?_
  refine w_iload_n dX7_boats_24 rfl ?_
  first | refine w_imulN dX7_boats_25 ?_ | refine w_imul dX7_boats_25 ?_
  refine wS2u dX7_boats_26 lk_X7_280 rfl (c_roundedUp (by omega) (by omega) (by omega)) (Nat.le_of_ble_eq_true rfl) (Nat.le_of_ble_eq_true rfl) (Nat.le_of_ble_eq_true rfl) (Nat.le_of_ble_eq_true rfl) ?_
  refine w_iret dX7_boats_29 rfl (Nat.le_of_ble_eq_true rfl) (Nat.le_of_ble_eq_true rfl) ?_
  refine ⟨XOut.ok (by rw [xk1, if_pos ⟨ok_5, ok_12, ok_19⟩]) ?_, hH, FH.rf⟩
  rw [ix_nI (by omega), ix_nI (by omega), ix_nI (by omega)]
