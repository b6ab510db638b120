/-! what lightens; in which order to look -/
theorem lp_lt44 {E : EV} {Q : OC → AH → Prop} {G : AH} {B tn im nw rm ru sp : Nat} {f : Nat → Nat} {wb sd si : Int32} {T Ti : ST} {D Di : LD} {P : Nat → ST × Int32} {n i x9 : Nat} {x y z : Value} {w : Nat → Int32} (hH : HI G B tn f wb T sd D im Ti si Di nw rm P ru sp) (hi : i < 12) (hx : x9 = oweN T i) (hw : G.1 (B + 70) = some (aI 12 w)) (hwi : ∀ j, j < i → w j = nI (oweN T j)) (kk : ∀ (G1 : AH) (w1 : Nat → Int32), HI G1 B tn f wb T sd D im Ti si Di nw rm P ru sp → FH G G1 B → G1.1 (B + 70) = some (aI 12 w1) → (∀ j, j < i + 1 → w1 j = nI (oweN T j)) → Wp E 10 1 6 kX7_lighten Q G1 (1, 6) 10 [.ref B, .int (nI n), .int (nI (i + 1)), x, y, z] []) : Wp E 10 1 6 kX7_lighten Q G (1, 6) 44 [.ref B, .int (nI n), .int (nI (i)), x, y, z] [.int (nI x9), .int (nI i), .ref (B + 70)] := by
  obtain ⟨hB, ⟨htn, him, hnw, hrm⟩, hT, hRd, ⟨hI, hBd⟩, hS, ⟨hL, hD, hSp, hrs⟩, ⟨hIi, hBi, hLi, hDi⟩, ⟨hPa, hPi⟩, ⟨⟨we, hwe⟩, hSm, hSv, ⟨od, hod⟩⟩⟩ := id hH; obtain ⟨⟨_, _, _, _, _, _, gS0⟩, _⟩ := id hS; have hI0 := hI.1; have hIi0 := hIi.1; have hSm0 := hSm.1; have hSv0 := hSv.1
  obtain ⟨i0, i1, i2, i3, i4, i5, i6, i7, i8, i9, i10, i11, i12, i13⟩ := id hI
  obtain ⟨b0, b1, b2_, b3, b4, b5, b6, b7, b8, b9, b10, b11, b12, b13, b14, b15, b16, b17, b18, b19⟩ := id hBd
  have hls := HI.ls hH
  have hla : ru + 6 ≤ B + 9 ∨ B + 9 + 14 ≤ ru := by omega
  have hlb : ru + 6 ≤ B + 23 ∨ B + 23 + 14 ≤ ru := by omega
  refine wS3n dX7_lighten_44 lk_X7_211 rfl (c_putN hw hi (by decide)) (Nat.le_of_ble_eq_true rfl) (Nat.le_of_ble_eq_true rfl) (Nat.le_of_ble_eq_true rfl) (Nat.le_of_ble_eq_true rfl) ?_
  first | refine w_iinc_2 dX7_lighten_47 (nI_inc _) rfl ?_ | refine w_iinc_2 dX7_lighten_47 rfl rfl ?_
  refine w_goto (tgt := 10) dX7_lighten_50 (by decide) ?_
  exact kk _ (upd w i (nI x9)) hH.wts (FH.gs (by omega) (by omega)) gs_at (by rw [hx]; exact wt_up hwi)
theorem lp_ltw {E : EV} {Q : OC → AH → Prop} {G0 : AH} {B tn im nw rm ru sp : Nat} {f : Nat → Nat} {wb sd si : Int32} {T Ti : ST} {D Di : LD} {P : Nat → ST × Int32} {n : Nat} {x y z : Value} (kk : ∀ (G1 : AH) (w1 : Nat → Int32), HI G1 B tn f wb T sd D im Ti si Di nw rm P ru sp → FH G0 G1 B → G1.1 (B + 70) = some (aI 12 w1) → (∀ j, j < 12 → w1 j = nI (oweN T j)) → Wp E 10 1 6 kX7_lighten Q G1 (1, 6) 53 [.ref B, .int (nI n), .int (nI (12)), x, y, z] []) : ∀ (k i : Nat) (G : AH) (w : Nat → Int32), 12 - i < k → i ≤ 12 → HI G B tn f wb T sd D im Ti si Di nw rm P ru sp → FH G0 G B → G.1 (B + 70) = some (aI 12 w) → (∀ j, j < i → w j = nI (oweN T j)) → Wp E 10 1 6 kX7_lighten Q G (1, 6) 10 [.ref B, .int (nI n), .int (nI (i)), x, y, z] [] := by
  intro k
  induction k with
  | zero => intro i G w h; exact absurd h (by omega)
  | succ k ih =>
    intro i G w hk hi hH hFH hw hwi
    obtain ⟨hB, ⟨htn, him, hnw, hrm⟩, hT, hRd, ⟨hI, hBd⟩, hS, ⟨hL, hD, hSp, hrs⟩, ⟨hIi, hBi, hLi, hDi⟩, ⟨hPa, hPi⟩, ⟨⟨we, hwe⟩, hSm, hSv, ⟨od, hod⟩⟩⟩ := id hH; obtain ⟨⟨_, _, _, _, _, _, gS0⟩, _⟩ := id hS; have hI0 := hI.1; have hIi0 := hIi.1; have hSm0 := hSm.1; have hSv0 := hSv.1
    obtain ⟨b0, b1, b2_, b3, b4, b5, b6, b7, b8, b9, b10, b11, b12, b13, b14, b15, b16, b17, b18, b19⟩ := id hBd
    have hn : ∀ (G1 : AH) (w1 : Nat → Int32), i < 12 → HI G1 B tn f wb T sd D im Ti si Di nw rm P ru sp → FH G G1 B → G1.1 (B + 70) = some (aI 12 w1) → (∀ j, j < i + 1 → w1 j = nI (oweN T j)) → Wp E 10 1 6 kX7_lighten Q G1 (1, 6) 10 [.ref B, .int (nI n), .int (nI (i + 1)), x, y, z] [] := fun G1 w1 hi2 a b c d => ih (i + 1) G1 w1 (by omega) (by omega) a (hFH.tr b) c d
    refine w_iload_n dX7_lighten_10 rfl ?_
    refine w_bipush (v := nI 12) dX7_lighten_11 (by decide) ?_
    refine w_icmp_ge (tgt := 53) dX7_lighten_13 (by decide) (fun c_13 => ?_) (fun c_13 => ?_)
    · try simp (disch := omega) only [nI_b2, Decidable.not_not, nI_ltI, nI_leI, nI_eq, ge_iff_le, gt_iff_lt, ne_eq, Nat.not_lt, Nat.not_le] at c_13
      have e : i = 12 := by omega
      subst e
      exact kk G w hH hFH hw hwi
    · try simp (disch := omega) only [nI_b2, Decidable.not_not, nI_ltI, nI_leI, nI_eq, ge_iff_le, gt_iff_lt, ne_eq, Nat.not_lt, Nat.not_le] at c_13
      refine w_aload_n dX7_lighten_16 rfl ?_
      refine w_getf dX7_lighten_17 fl_X7_74 (by first | assumption | exact gs_at | (rw [gs_ne (by omega)]; (first | assumption | exact gs_at | (rw [gs_ne (by omega)]; (first | assumption | exact gs_at | (rw [gs_ne (by omega)]; (first | assumption | exact gs_at | (rw [gs_ne (by omega)]; (first | assumption | exact gs_at))))))))) rfl ?_
      refine w_iload_n dX7_lighten_20 rfl ?_
      refine w_iload_n dX7_lighten_21 rfl ?_
      refine w_aload_n dX7_lighten_22 rfl ?_
      refine w_getf dX7_lighten_23 fl_X7_37 (by first | assumption | exact gs_at | (rw [gs_ne (by omega)]; (first | assumption | exact gs_at | (rw [gs_ne (by omega)]; (first | assumption | exact gs_at | (rw [gs_ne (by omega)]; (first | assumption | exact gs_at | (rw [gs_ne (by omega)]; (first | assumption | exact gs_at))))))))) rfl ?_
      refine w_getf dX7_lighten_26 fl_X7_242 (by first | assumption | exact gs_at | (rw [gs_ne (by omega)]; (first | assumption | exact gs_at | (rw [gs_ne (by omega)]; (first | assumption | exact gs_at | (rw [gs_ne (by omega)]; (first | assumption | exact gs_at | (rw [gs_ne (by omega)]; (first | assumption | exact gs_at))))))))) rfl ?_
      refine w_icmp_ge (tgt := 43) dX7_lighten_29 (by decide) (fun c_29 => ?_) (fun c_29 => ?_)
      · try simp (disch := omega) only [nI_b2, Decidable.not_not, nI_ltI, nI_leI, nI_eq, ge_iff_le, gt_iff_lt, ne_eq, Nat.not_lt, Nat.not_le] at c_29
        refine w_iconst (v := nI 0) dX7_lighten_43 (by decide) ?_
        first
          | exact lp_lt44 hH (by omega) rfl hw hwi (fun G1 w1 => hn G1 w1 (by omega))
          | exact lp_lt44 hH (by omega) (owe_0 hBd (by omega)).symm hw hwi (fun G1 w1 => hn G1 w1 (by omega))
      · try simp (disch := omega) only [nI_b2, Decidable.not_not, nI_ltI, nI_leI, nI_eq, ge_iff_le, gt_iff_lt, ne_eq, Nat.not_lt, Nat.not_le] at c_29
        refine w_aload_n dX7_lighten_32 rfl ?_
        refine w_getf dX7_lighten_33 fl_X7_37 (by first | assumption | exact gs_at | (rw [gs_ne (by omega)]; (first | assumption | exact gs_at | (rw [gs_ne (by omega)]; (first | assumption | exact gs_at | (rw [gs_ne (by omega)]; (first | assumption | exact gs_at | (rw [gs_ne (by omega)]; (first | assumption | exact gs_at))))))))) rfl ?_
        refine w_iload_n dX7_lighten_36 rfl ?_
        refine wV1u dX7_lighten_37 lk_X7_293 rfl (by first | assumption | exact gs_at | (rw [gs_ne (by omega)]; (first | assumption | exact gs_at | (rw [gs_ne (by omega)]; (first | assumption | exact gs_at | (rw [gs_ne (by omega)]; (first | assumption | exact gs_at | (rw [gs_ne (by omega)]; (first | assumption | exact gs_at))))))))) rfl rfl (c_owedFor hI hBd (by omega)) (Nat.le_of_ble_eq_true rfl) (Nat.le_of_ble_eq_true rfl) (Nat.le_of_ble_eq_true rfl) (Nat.le_of_ble_eq_true rfl) ?_
        refine w_goto (tgt := 44) dX7_lighten_40 (by decide) ?_
        first
          | exact lp_lt44 hH (by omega) rfl hw hwi (fun G1 w1 => hn G1 w1 (by omega))
          | exact lp_lt44 hH (by omega) (owe_0 hBd (by omega)).symm hw hwi (fun G1 w1 => hn G1 w1 (by omega))
def ltR (T : ST) (n s : Nat) : Int32 × Nat := ltS (dueN T) n (sb12 (oweN T)) s
theorem lp_lighten {E : EV} {Q : OC → AH → Prop} {G : AH} {n : Nat} {g : Nat → Nat} {B tn im nw rm ru sp : Nat} {f : Nat → Nat} {wb sd si : Int32} {T Ti : ST} {D Di : LD} {P : Nat → ST × Int32} (hH : HI G B tn f wb T sd D im Ti si Di nw rm P ru sp) (hSW : SmF G (B + 71) g) (hg : ∀ s, sb12 g s = sb12 (oweN T) s) (hn : n ≤ 9999) (hQ : Q (.inl (some (.int (ltR T n (1 * 2 ^ T 12 0)).1))) G) : ∀ (k i : Nat), 1 * 2 ^ T 12 0 - i < k → i ≤ 1 * 2 ^ T 12 0 → Wp E 10 1 6 kX7_lighten Q G (1, 6) 83 [.ref B, .int (nI n), .int (nI (dueN T) - nI n), .int (ltR T n i).1, .int (nI (ltR T n i).2), .int (nI i)] [] := by
  obtain ⟨hB, ⟨htn, him, hnw, hrm⟩, hT, hRd, ⟨hI, hBd⟩, hS, ⟨hL, hD, hSp, hrs⟩, ⟨hIi, hBi, hLi, hDi⟩, ⟨hPa, hPi⟩, ⟨⟨we, hwe⟩, hSm, hSv, ⟨od, hod⟩⟩⟩ := id hH; obtain ⟨⟨_, _, _, _, _, _, gS0⟩, _⟩ := id hS; have hI0 := hI.1; have hIi0 := hIi.1; have hSm0 := hSm.1; have hSv0 := hSv.1
  obtain ⟨i0, i1, i2, i3, i4, i5, i6, i7, i8, i9, i10, i11, i12, i13⟩ := id hI
  obtain ⟨b0, b1, b2_, b3, b4, b5, b6, b7, b8, b9, b10, b11, b12, b13, b14, b15, b16, b17, b18, b19⟩ := id hBd
  have hls := HI.ls hH
  have hla : ru + 6 ≤ B + 9 ∨ B + 9 + 14 ≤ ru := by omega
  have hlb : ru + 6 ≤ B + 23 ∨ B + 23 + 14 ≤ ru := by omega
  have hp := p2_12 b0
  have hwr : ∀ s, sb12 (oweN T) s ≤ 2376 := fun s => Nat.le_trans (sb12_le (owe_le hBd) s) (by omega)
  have hdu := due_le hBd
  intro k
  induction k with
  | zero => intro i h; exact absurd h (by omega)
  | succ k ih =>
    intro i hk hi
    have hsl : (ltR T n i).2 ≤ 13 := ltS_le _ _ _ i
    have hwi := hwr i
    refine w_iload dX7_lighten_83 rfl ?_
    refine w_iconst (v := nI 1) dX7_lighten_85 (by decide) ?_
    refine w_aload_n dX7_lighten_86 rfl ?_
    refine w_getf dX7_lighten_87 fl_X7_37 (by first | assumption | exact gs_at | (rw [gs_ne (by omega)]; (first | assumption | exact gs_at | (rw [gs_ne (by omega)]; (first | assumption | exact gs_at | (rw [gs_ne (by omega)]; (first | assumption | exact gs_at | (rw [gs_ne (by omega)]; (first | assumption | exact gs_at))))))))) rfl ?_
    refine w_getf dX7_lighten_90 fl_X7_242 (by first | assumption | exact gs_at | (rw [gs_ne (by omega)]; (first | assumption | exact gs_at | (rw [gs_ne (by omega)]; (first | assumption | exact gs_at | (rw [gs_ne (by omega)]; (first | assumption | exact gs_at | (rw [gs_ne (by omega)]; (first | assumption | exact gs_at))))))))) rfl ?_
    refine w_ishlN (by omega) (by omega) dX7_lighten_93 ?_
    refine w_icmp_ge (tgt := 136) dX7_lighten_94 (by decide) (fun c_94 => ?_) (fun c_94 => ?_)
    · try simp (disch := omega) only [nI_b2, Decidable.not_not, nI_ltS, nI_ltI, nI_leI, nI_eq, ge_iff_le, gt_iff_lt, ne_eq, Nat.not_lt, Nat.not_le] at c_94
      refine w_iload_n dX7_lighten_136 rfl ?_
      refine w_iret dX7_lighten_137 rfl (Nat.le_of_ble_eq_true rfl) (Nat.le_of_ble_eq_true rfl) ?_
      have e : i = 1 * 2 ^ T 12 0 := by omega
      subst e
      exact hQ
    · try simp (disch := omega) only [nI_b2, Decidable.not_not, nI_ltS, nI_ltI, nI_leI, nI_eq, ge_iff_le, gt_iff_lt, ne_eq, Nat.not_lt, Nat.not_le] at c_94
      refine w_aload_n dX7_lighten_97 rfl ?_
      refine w_getf dX7_lighten_98 fl_X7_80 (by first | assumption | exact gs_at | (rw [gs_ne (by omega)]; (first | assumption | exact gs_at | (rw [gs_ne (by omega)]; (first | assumption | exact gs_at | (rw [gs_ne (by omega)]; (first | assumption | exact gs_at | (rw [gs_ne (by omega)]; (first | assumption | exact gs_at))))))))) rfl ?_
      refine w_iload dX7_lighten_101 rfl ?_
      refine wV1u dX7_lighten_103 lk_X7_259 rfl (by first | assumption | exact gs_at | (rw [gs_ne (by omega)]; (first | assumption | exact gs_at | (rw [gs_ne (by omega)]; (first | assumption | exact gs_at | (rw [gs_ne (by omega)]; (first | assumption | exact gs_at | (rw [gs_ne (by omega)]; (first | assumption | exact gs_at))))))))) rfl rfl (c_sumOf hSW (by omega)) (Nat.le_of_ble_eq_true rfl) (Nat.le_of_ble_eq_true rfl) (Nat.le_of_ble_eq_true rfl) (Nat.le_of_ble_eq_true rfl) ?_
      rw [hg]
      refine w_iload_n dX7_lighten_106 rfl ?_
      refine w_icmp_lt (tgt := 130) dX7_lighten_107 (by decide) (fun c_107 => ?_) (fun c_107 => ?_)
      · try simp (disch := omega) only [nI_b2, Decidable.not_not, nI_ltS, nI_ltI, nI_leI, nI_eq, ge_iff_le, gt_iff_lt, ne_eq, Nat.not_lt, Nat.not_le] at c_107
        first | refine w_iinc_5 dX7_lighten_130 (nI_inc _) rfl ?_ | refine w_iinc_5 dX7_lighten_130 rfl rfl ?_
        refine w_goto (tgt := 83) dX7_lighten_133 (by decide) ?_
        have hN := ih (i + 1) (by omega) (by omega)
        rw [ltR, ltS, ← ltR] at hN
        first
          | (rw [if_pos ⟨c_107, c_117⟩] at hN; exact hN)
          | (rw [if_neg (fun h => by have h1 := h.1; omega)] at hN; exact hN)
          | (rw [if_neg (fun h => by have h1 := h.2; omega)] at hN; exact hN)
      · try simp (disch := omega) only [nI_b2, Decidable.not_not, nI_ltS, nI_ltI, nI_leI, nI_eq, ge_iff_le, gt_iff_lt, ne_eq, Nat.not_lt, Nat.not_le] at c_107
        refine w_iload dX7_lighten_110 rfl ?_
        refine wJ1u dX7_lighten_112 lk_X7_227 rfl (c_bitCount (by omega)) (Nat.le_of_ble_eq_true rfl) (Nat.le_of_ble_eq_true rfl) (Nat.le_of_ble_eq_true rfl) (Nat.le_of_ble_eq_true rfl) ?_
        have hcn := cntN_le i 12
        refine w_iload dX7_lighten_115 rfl ?_
        refine w_icmp_ge (tgt := 130) dX7_lighten_117 (by decide) (fun c_117 => ?_) (fun c_117 => ?_)
        · try simp (disch := omega) only [nI_b2, Decidable.not_not, nI_ltS, nI_ltI, nI_leI, nI_eq, ge_iff_le, gt_iff_lt, ne_eq, Nat.not_lt, Nat.not_le] at c_117
          first | refine w_iinc_5 dX7_lighten_130 (nI_inc _) rfl ?_ | refine w_iinc_5 dX7_lighten_130 rfl rfl ?_
          refine w_goto (tgt := 83) dX7_lighten_133 (by decide) ?_
          have hN := ih (i + 1) (by omega) (by omega)
          rw [ltR, ltS, ← ltR] at hN
          first
            | (rw [if_pos ⟨c_107, c_117⟩] at hN; exact hN)
            | (rw [if_neg (fun h => by have h1 := h.1; omega)] at hN; exact hN)
            | (rw [if_neg (fun h => by have h1 := h.2; omega)] at hN; exact hN)
        · try simp (disch := omega) only [nI_b2, Decidable.not_not, nI_ltS, nI_ltI, nI_leI, nI_eq, ge_iff_le, gt_iff_lt, ne_eq, Nat.not_lt, Nat.not_le] at c_117
          refine w_iload dX7_lighten_120 rfl ?_
          refine w_istore_3 dX7_lighten_122 rfl ?_
          refine w_iload dX7_lighten_123 rfl ?_
          refine wJ1u dX7_lighten_125 lk_X7_227 rfl (c_bitCount (by omega)) (Nat.le_of_ble_eq_true rfl) (Nat.le_of_ble_eq_true rfl) (Nat.le_of_ble_eq_true rfl) (Nat.le_of_ble_eq_true rfl) ?_
          refine w_istore_4 dX7_lighten_128 rfl ?_
          first | refine w_iinc_5 dX7_lighten_130 (nI_inc _) rfl ?_ | refine w_iinc_5 dX7_lighten_130 rfl rfl ?_
          refine w_goto (tgt := 83) dX7_lighten_133 (by decide) ?_
          have hN := ih (i + 1) (by omega) (by omega)
          rw [ltR, ltS, ← ltR] at hN
          first
            | (rw [if_pos ⟨c_107, c_117⟩] at hN; exact hN)
            | (rw [if_neg (fun h => by have h1 := h.1; omega)] at hN; exact hN)
            | (rw [if_neg (fun h => by have h1 := h.2; omega)] at hN; exact hN)
theorem c_lighten {E : EV} {G : AH} {B tn im nw rm ru sp : Nat} {f : Nat → Nat} {wb sd si : Int32} {T Ti : ST} {D Di : LD} {P : Nat → ST × Int32} {x : Int32} (hH : HI G B tn f wb T sd D im Ti si Di nw rm P ru sp)  : Ct E 10 1 6 kX7_lighten [.ref B, .int x] G (fun o G1 => XOut ["java/lang/IllegalArgumentException"] (xk1 (okN 0 (nI 9999) x)) ((ltR T (ix x) (1 * 2 ^ T 12 0)).1) o ∧ HI G1 B tn f wb T sd D im Ti si Di nw rm P ru sp ∧ FH G G1 B) := by
  obtain ⟨hB, ⟨htn, him, hnw, hrm⟩, hT, hRd, ⟨hI, hBd⟩, hS, ⟨hL, hD, hSp, hrs⟩, ⟨hIi, hBi, hLi, hDi⟩, ⟨hPa, hPi⟩, ⟨⟨we, hwe⟩, hSm, hSv, ⟨od, hod⟩⟩⟩ := id hH; obtain ⟨⟨_, _, _, _, _, _, gS0⟩, _⟩ := id hS; have hI0 := hI.1; have hIi0 := hIi.1; have hSm0 := hSm.1; have hSv0 := hSv.1
  obtain ⟨i0, i1, i2, i3, i4, i5, i6, i7, i8, i9, i10, i11, i12, i13⟩ := id hI
  obtain ⟨b0, b1, b2_, b3, b4, b5, b6, b7, b8, b9, b10, b11, b12, b13, b14, b15, b16, b17, b18, b19⟩ := id hBd
  have hls := HI.ls hH
  have hla : ru + 6 ≤ B + 9 ∨ B + 9 + 14 ≤ ru := by omega
  have hlb : ru + 6 ≤ B + 23 ∨ B + 23 + 14 ≤ ru := by omega
  refine Ct.intro rfl (by decide) [.ref B, .int x, .float 0, .float 0, .float 0, .float 0] (by simp [Value.category]) (Nat.le_of_ble_eq_true rfl) rfl ?_
  refine w_iload_n dX7_lighten_0 rfl ?_
  refine w_iconst (v := nI 0) dX7_lighten_1 (by decide) ?_
  refine w_sipush (v := nI 9999) dX7_lighten_2 (by decide) ?_
  refine wS3k dX7_lighten_5 lk_X7_220 rfl rfl (c_checkNumber) (Nat.le_of_ble_eq_true rfl) (Nat.le_of_ble_eq_true rfl) (Nat.le_of_ble_eq_true rfl) (Nat.le_of_ble_eq_true rfl) ((fun h9 n9 h8 => ⟨XOut.no (j := 0) (by rw [xk1, if_neg h9]) rfl, hH.x, FH.x h8⟩)) (fun ok_5 => ?_)
  obtain ⟨n, hj8, hj9, rfl⟩ := in_L (by omega) (by omega) ok_5
  refine w_iconst (v := nI 0) dX7_lighten_8 (by decide) ?_
  refine w_istore_2 dX7_lighten_9 rfl ?_
  refine lp_ltw (fun G w hH hFH hw hwi => ?_) 13 0 G _ (by omega) (by omega) hH FH.rf hwe (fun j hj => absurd hj (by omega))
  obtain ⟨hB, ⟨htn, him, hnw, hrm⟩, hT, hRd, ⟨hI, hBd⟩, hS, ⟨hL, hD, hSp, hrs⟩, ⟨hIi, hBi, hLi, hDi⟩, ⟨hPa, hPi⟩, ⟨⟨we, hwe⟩, hSm, hSv, ⟨od, hod⟩⟩⟩ := id hH; obtain ⟨⟨_, _, _, _, _, _, gS0⟩, _⟩ := id hS; have hI0 := hI.1; have hIi0 := hIi.1; have hSm0 := hSm.1; have hSv0 := hSv.1
  obtain ⟨i0, i1, i2, i3, i4, i5, i6, i7, i8, i9, i10, i11, i12, i13⟩ := id hI
  refine w_aload_n dX7_lighten_53 rfl ?_
  refine w_getf dX7_lighten_54 fl_X7_80 (by first | assumption | exact gs_at | (rw [gs_ne (by omega)]; (first | assumption | exact gs_at | (rw [gs_ne (by omega)]; (first | assumption | exact gs_at | (rw [gs_ne (by omega)]; (first | assumption | exact gs_at | (rw [gs_ne (by omega)]; (first | assumption | exact gs_at))))))))) rfl ?_
  refine w_aload_n dX7_lighten_57 rfl ?_
  refine w_getf dX7_lighten_58 fl_X7_74 (by first | assumption | exact gs_at | (rw [gs_ne (by omega)]; (first | assumption | exact gs_at | (rw [gs_ne (by omega)]; (first | assumption | exact gs_at | (rw [gs_ne (by omega)]; (first | assumption | exact gs_at | (rw [gs_ne (by omega)]; (first | assumption | exact gs_at))))))))) rfl ?_
  refine wV1d dX7_lighten_61 lk_X7_255 rfl (by first | assumption | exact gs_at | (rw [gs_ne (by omega)]; (first | assumption | exact gs_at | (rw [gs_ne (by omega)]; (first | assumption | exact gs_at | (rw [gs_ne (by omega)]; (first | assumption | exact gs_at | (rw [gs_ne (by omega)]; (first | assumption | exact gs_at))))))))) rfl rfl (c_fill hSm (row_N hw) (by omega)) (Nat.le_of_ble_eq_true rfl) (Nat.le_of_ble_eq_true rfl) (Nat.le_of_ble_eq_true rfl) (Nat.le_of_ble_eq_true rfl) (fun G h_61 => ?_)
  obtain ⟨hSW, hsz, hFr⟩ := h_61
  have hH := hH.sumW hSW.r hFr
  have hFH := hFH.tr ⟨Nat.le_of_eq hsz.symm, fun q hq => hFr q (by omega)⟩
  obtain ⟨hB, ⟨htn, him, hnw, hrm⟩, hT, hRd, ⟨hI, hBd⟩, hS, ⟨hL, hD, hSp, hrs⟩, ⟨hIi, hBi, hLi, hDi⟩, ⟨hPa, hPi⟩, ⟨⟨we, hwe⟩, hSm, hSv, ⟨od, hod⟩⟩⟩ := id hH; obtain ⟨⟨_, _, _, _, _, _, gS0⟩, _⟩ := id hS; have hI0 := hI.1; have hIi0 := hIi.1; have hSm0 := hSm.1; have hSv0 := hSv.1
  obtain ⟨i0, i1, i2, i3, i4, i5, i6, i7, i8, i9, i10, i11, i12, i13⟩ := id hI
  refine w_aload_n dX7_lighten_64 rfl ?_
  refine w_getf dX7_lighten_65 fl_X7_37 (by first | assumption | exact gs_at | (rw [gs_ne (by omega)]; (first | assumption | exact gs_at | (rw [gs_ne (by omega)]; (first | assumption | exact gs_at | (rw [gs_ne (by omega)]; (first | assumption | exact gs_at | (rw [gs_ne (by omega)]; (first | assumption | exact gs_at))))))))) rfl ?_
  refine wV0u dX7_lighten_68 lk_X7_290 rfl (by first | assumption | exact gs_at | (rw [gs_ne (by omega)]; (first | assumption | exact gs_at | (rw [gs_ne (by omega)]; (first | assumption | exact gs_at | (rw [gs_ne (by omega)]; (first | assumption | exact gs_at | (rw [gs_ne (by omega)]; (first | assumption | exact gs_at))))))))) rfl rfl (c_owedMore hI hBd) (Nat.le_of_ble_eq_true rfl) (Nat.le_of_ble_eq_true rfl) (Nat.le_of_ble_eq_true rfl) (Nat.le_of_ble_eq_true rfl) ?_
  refine w_iload_n dX7_lighten_71 rfl ?_
  refine w_isub dX7_lighten_72 ?_
  refine w_istore_2 dX7_lighten_73 rfl ?_
  refine w_iconst (v := (-1)) dX7_lighten_74 (by decide) ?_
  refine w_istore_3 dX7_lighten_75 rfl ?_
  refine w_bipush (v := nI 13) dX7_lighten_76 (by decide) ?_
  refine w_istore_4 dX7_lighten_78 rfl ?_
  refine w_iconst (v := nI 0) dX7_lighten_80 (by decide) ?_
  refine w_istore_5 dX7_lighten_81 rfl ?_
  exact lp_lighten hH hSW (fun s => sb12_cg (fun i hi => by rw [hwi i hi]; exact nOf_nI (by have := owe_le hBd i; omega))) (by omega) ⟨XOut.ok (by rw [xk1, if_pos ok_5]) (by rw [ix_nI (by omega)]), hH, hFH⟩ (1 * 2 ^ T 12 0 + 1) 0 (by omega) (by omega)
def lkN (T : ST) (r : Nat) : Nat := cntN 12 (bitN (fun i => T 1 i = r) (T 12 0)) + 1
def lcN (T : ST) (r : Nat) : Nat := T 7 r + 1
abbrev gaP (T : ST) (r o : Nat) : Prop := lcN T r * lkN T o < lcN T o * lkN T r
theorem lk_le (T : ST) (r : Nat) : lkN T r ≤ 13 := by have := cntN_le (bitN (fun i => T 1 i = r) (T 12 0)) 12; unfold lkN; omega
theorem lc_le {T : ST} (hB : Bd T) (r : Nat) : lcN T r ≤ 100 := by have := hB.2.2.2.2.2.2.2.2.1 r; unfold lcN; omega
theorem lcl_le {T : ST} (hB : Bd T) (r o : Nat) : lcN T r * lkN T o ≤ 1300 := by have := Nat.mul_le_mul (lc_le hB r) (lk_le T o); omega
theorem dec_N (p : Nat) : nI (p + 1) + (-1) = nI p := by
  have h := pk_sub (a := p + 1) (b := 1) (by omega)
  rw [Nat.add_sub_cancel] at h
  rw [← h, show (-1 : Int32) = -(nI 1) from rfl, Int32.sub_eq_add_neg]
def insO (T : ST) (r : Nat) : Nat → (Nat → Nat) → Nat → Nat | 0, o => updF o 0 r | p + 1, o => if gaP T r (o p) then insO T r p (updF o (p + 1) (o p)) else updF o (p + 1) r
def ordO (T : ST) (o0 : Nat → Nat) : Nat → Nat → Nat | 0 => o0 | r + 1 => insO T r r (ordO T o0 r)
theorem c_likelihood {E : EV} {G : AH} {B tn im nw rm ru sp : Nat} {f : Nat → Nat} {wb sd si : Int32} {T Ti : ST} {D Di : LD} {P : Nat → ST × Int32} {r : Nat} (hH : HI G B tn f wb T sd D im Ti si Di nw rm P ru sp) (hr : r < 100) : Cu E 3 kX7_likelihood [.ref B, .int (nI r)] G (.int (nI (lkN T r))) G := by
  obtain ⟨hB, ⟨htn, him, hnw, hrm⟩, hT, hRd, ⟨hI, hBd⟩, hS, ⟨hL, hD, hSp, hrs⟩, ⟨hIi, hBi, hLi, hDi⟩, ⟨hPa, hPi⟩, ⟨⟨we, hwe⟩, hSm, hSv, ⟨od, hod⟩⟩⟩ := id hH; obtain ⟨⟨_, _, _, _, _, _, gS0⟩, _⟩ := id hS; have hI0 := hI.1; have hIi0 := hIi.1; have hSm0 := hSm.1; have hSv0 := hSv.1
  obtain ⟨i0, i1, i2, i3, i4, i5, i6, i7, i8, i9, i10, i11, i12, i13⟩ := id hI
  obtain ⟨b0, b1, b2_, b3, b4, b5, b6, b7, b8, b9, b10, b11, b12, b13, b14, b15, b16, b17, b18, b19⟩ := id hBd
  have hls := HI.ls hH
  have hla : ru + 6 ≤ B + 9 ∨ B + 9 + 14 ≤ ru := by omega
  have hlb : ru + 6 ≤ B + 23 ∨ B + 23 + 14 ≤ ru := by omega
  refine Ct.intro rfl (by decide) [.ref B, .int (nI r)] (by simp [Value.category]) (Nat.le_of_ble_eq_true rfl) rfl ?_
  refine w_aload_n dX7_likelihood_0 rfl ?_
  refine w_getf dX7_likelihood_1 fl_X7_37 (by first | assumption | exact gs_at | (rw [gs_ne (by omega)]; (first | assumption | exact gs_at | (rw [gs_ne (by omega)]; (first | assumption | exact gs_at | (rw [gs_ne (by omega)]; (first | assumption | exact gs_at | (rw [gs_ne (by omega)]; (first | assumption | exact gs_at))))))))) rfl ?_
  refine w_aload_n dX7_likelihood_4 rfl ?_
  refine w_getf dX7_likelihood_5 fl_X7_37 (by first | assumption | exact gs_at | (rw [gs_ne (by omega)]; (first | assumption | exact gs_at | (rw [gs_ne (by omega)]; (first | assumption | exact gs_at | (rw [gs_ne (by omega)]; (first | assumption | exact gs_at | (rw [gs_ne (by omega)]; (first | assumption | exact gs_at))))))))) rfl ?_
  refine w_getf dX7_likelihood_8 fl_X7_134 (by first | assumption | exact gs_at | (rw [gs_ne (by omega)]; (first | assumption | exact gs_at | (rw [gs_ne (by omega)]; (first | assumption | exact gs_at | (rw [gs_ne (by omega)]; (first | assumption | exact gs_at | (rw [gs_ne (by omega)]; (first | assumption | exact gs_at))))))))) rfl ?_
  refine w_iload_n dX7_likelihood_11 rfl ?_
  refine wV2u dX7_likelihood_12 lk_X7_179 rfl (by first | assumption | exact gs_at | (rw [gs_ne (by omega)]; (first | assumption | exact gs_at | (rw [gs_ne (by omega)]; (first | assumption | exact gs_at | (rw [gs_ne (by omega)]; (first | assumption | exact gs_at | (rw [gs_ne (by omega)]; (first | assumption | exact gs_at))))))))) rfl rfl (c_itemsWith (f := fun i => T 1 i) hI hBd i2 (fun i => by have := b2_ i; omega) hr) (Nat.le_of_ble_eq_true rfl) (Nat.le_of_ble_eq_true rfl) (Nat.le_of_ble_eq_true rfl) (Nat.le_of_ble_eq_true rfl) ?_
  refine wJ1u dX7_likelihood_15 lk_X7_227 rfl (c_bitCount (bitN_12 _ b0)) (Nat.le_of_ble_eq_true rfl) (Nat.le_of_ble_eq_true rfl) (Nat.le_of_ble_eq_true rfl) (Nat.le_of_ble_eq_true rfl) ?_
  refine w_iconst (v := nI 1) dX7_likelihood_18 (by decide) ?_
  first | refine w_iaddN dX7_likelihood_19 ?_ | refine w_iadd dX7_likelihood_19 ?_
  refine w_iret dX7_likelihood_20 rfl (Nat.le_of_ble_eq_true rfl) (Nat.le_of_ble_eq_true rfl) ?_
  exact ⟨rfl, rfl⟩
theorem c_lookCost {E : EV} {G : AH} {B tn im nw rm ru sp : Nat} {f : Nat → Nat} {wb sd si : Int32} {T Ti : ST} {D Di : LD} {P : Nat → ST × Int32} {r : Nat} (hH : HI G B tn f wb T sd D im Ti si Di nw rm P ru sp) (hr : r < 6) : Cu E 2 kX7_lookCost [.ref B, .int (nI r)] G (.int (nI (lcN T r))) G := by
  obtain ⟨hB, ⟨htn, him, hnw, hrm⟩, hT, hRd, ⟨hI, hBd⟩, hS, ⟨hL, hD, hSp, hrs⟩, ⟨hIi, hBi, hLi, hDi⟩, ⟨hPa, hPi⟩, ⟨⟨we, hwe⟩, hSm, hSv, ⟨od, hod⟩⟩⟩ := id hH; obtain ⟨⟨_, _, _, _, _, _, gS0⟩, _⟩ := id hS; have hI0 := hI.1; have hIi0 := hIi.1; have hSm0 := hSm.1; have hSv0 := hSv.1
  obtain ⟨i0, i1, i2, i3, i4, i5, i6, i7, i8, i9, i10, i11, i12, i13⟩ := id hI
  obtain ⟨b0, b1, b2_, b3, b4, b5, b6, b7, b8, b9, b10, b11, b12, b13, b14, b15, b16, b17, b18, b19⟩ := id hBd
  have hls := HI.ls hH
  have hla : ru + 6 ≤ B + 9 ∨ B + 9 + 14 ≤ ru := by omega
  have hlb : ru + 6 ≤ B + 23 ∨ B + 23 + 14 ≤ ru := by omega
  refine Ct.intro rfl (by decide) [.ref B, .int (nI r)] (by simp [Value.category]) (Nat.le_of_ble_eq_true rfl) rfl ?_
  refine w_aload_n dX7_lookCost_0 rfl ?_
  refine w_getf dX7_lookCost_1 fl_X7_37 (by first | assumption | exact gs_at | (rw [gs_ne (by omega)]; (first | assumption | exact gs_at | (rw [gs_ne (by omega)]; (first | assumption | exact gs_at | (rw [gs_ne (by omega)]; (first | assumption | exact gs_at | (rw [gs_ne (by omega)]; (first | assumption | exact gs_at))))))))) rfl ?_
  refine w_getf dX7_lookCost_4 fl_X7_173 (by first | assumption | exact gs_at | (rw [gs_ne (by omega)]; (first | assumption | exact gs_at | (rw [gs_ne (by omega)]; (first | assumption | exact gs_at | (rw [gs_ne (by omega)]; (first | assumption | exact gs_at | (rw [gs_ne (by omega)]; (first | assumption | exact gs_at))))))))) rfl ?_
  refine w_iload_n dX7_lookCost_7 rfl ?_
  refine wS2u dX7_lookCost_8 lk_X7_137 rfl (c_atN (f := fun i => nI (T 7 i)) i8 hr (by decide)) (Nat.le_of_ble_eq_true rfl) (Nat.le_of_ble_eq_true rfl) (Nat.le_of_ble_eq_true rfl) (Nat.le_of_ble_eq_true rfl) ?_
  refine w_iconst (v := nI 1) dX7_lookCost_11 (by decide) ?_
  first | refine w_iaddN dX7_lookCost_12 ?_ | refine w_iadd dX7_lookCost_12 ?_
  refine w_iret dX7_lookCost_13 rfl (Nat.le_of_ble_eq_true rfl) (Nat.le_of_ble_eq_true rfl) ?_
  exact ⟨rfl, rfl⟩
theorem c_goesAhead {E : EV} {G : AH} {B tn im nw rm ru sp : Nat} {f : Nat → Nat} {wb sd si : Int32} {T Ti : ST} {D Di : LD} {P : Nat → ST × Int32} {r o : Nat} (hH : HI G B tn f wb T sd D im Ti si Di nw rm P ru sp) (hr : r < 6) (ho : o < 6) : Cu E 4 kX7_goesAhead [.ref B, .int (nI r), .int (nI o)] G (.int (nI (b2 (gaP T r o)))) G := by
  obtain ⟨hB, ⟨htn, him, hnw, hrm⟩, hT, hRd, ⟨hI, hBd⟩, hS, ⟨hL, hD, hSp, hrs⟩, ⟨hIi, hBi, hLi, hDi⟩, ⟨hPa, hPi⟩, ⟨⟨we, hwe⟩, hSm, hSv, ⟨od, hod⟩⟩⟩ := id hH; obtain ⟨⟨_, _, _, _, _, _, gS0⟩, _⟩ := id hS; have hI0 := hI.1; have hIi0 := hIi.1; have hSm0 := hSm.1; have hSv0 := hSv.1
  obtain ⟨i0, i1, i2, i3, i4, i5, i6, i7, i8, i9, i10, i11, i12, i13⟩ := id hI
  obtain ⟨b0, b1, b2_, b3, b4, b5, b6, b7, b8, b9, b10, b11, b12, b13, b14, b15, b16, b17, b18, b19⟩ := id hBd
  have hls := HI.ls hH
  have hla : ru + 6 ≤ B + 9 ∨ B + 9 + 14 ≤ ru := by omega
  have hlb : ru + 6 ≤ B + 23 ∨ B + 23 + 14 ≤ ru := by omega
  have h91 := lcl_le hBd r o; have h92 := lcl_le hBd o r
  refine Ct.intro rfl (by decide) [.ref B, .int (nI r), .int (nI o)] (by simp [Value.category]) (Nat.le_of_ble_eq_true rfl) rfl ?_
  refine w_aload_n dX7_goesAhead_0 rfl ?_
  refine w_iload_n dX7_goesAhead_1 rfl ?_
  refine wV1u dX7_goesAhead_2 lk_X7_265 rfl (by first | assumption | exact gs_at | (rw [gs_ne (by omega)]; (first | assumption | exact gs_at | (rw [gs_ne (by omega)]; (first | assumption | exact gs_at | (rw [gs_ne (by omega)]; (first | assumption | exact gs_at | (rw [gs_ne (by omega)]; (first | assumption | exact gs_at))))))))) rfl rfl (c_lookCost hH hr) (Nat.le_of_ble_eq_true rfl) (Nat.le_of_ble_eq_true rfl) (Nat.le_of_ble_eq_true rfl) (Nat.le_of_ble_eq_true rfl) ?_
  refine w_aload_n dX7_goesAhead_5 rfl ?_
  refine w_iload_n dX7_goesAhead_6 rfl ?_
  refine wV1u dX7_goesAhead_7 lk_X7_268 rfl (by first | assumption | exact gs_at | (rw [gs_ne (by omega)]; (first | assumption | exact gs_at | (rw [gs_ne (by omega)]; (first | assumption | exact gs_at | (rw [gs_ne (by omega)]; (first | assumption | exact gs_at | (rw [gs_ne (by omega)]; (first | assumption | exact gs_at))))))))) rfl rfl (c_likelihood hH (by omega)) (Nat.le_of_ble_eq_true rfl) (Nat.le_of_ble_eq_true rfl) (Nat.le_of_ble_eq_true rfl) (Nat.le_of_ble_eq_true rfl) ?_
  first | refine w_imulN dX7_goesAhead_10 ?_ | refine w_imul dX7_goesAhead_10 ?_
  refine w_aload_n dX7_goesAhead_11 rfl ?_
  refine w_iload_n dX7_goesAhead_12 rfl ?_
  refine wV1u dX7_goesAhead_13 lk_X7_265 rfl (by first | assumption | exact gs_at | (rw [gs_ne (by omega)]; (first | assumption | exact gs_at | (rw [gs_ne (by omega)]; (first | assumption | exact gs_at | (rw [gs_ne (by omega)]; (first | assumption | exact gs_at | (rw [gs_ne (by omega)]; (first | assumption | exact gs_at))))))))) rfl rfl (c_lookCost hH ho) (Nat.le_of_ble_eq_true rfl) (Nat.le_of_ble_eq_true rfl) (Nat.le_of_ble_eq_true rfl) (Nat.le_of_ble_eq_true rfl) ?_
  refine w_aload_n dX7_goesAhead_16 rfl ?_
  refine w_iload_n dX7_goesAhead_17 rfl ?_
  refine wV1u dX7_goesAhead_18 lk_X7_268 rfl (by first | assumption | exact gs_at | (rw [gs_ne (by omega)]; (first | assumption | exact gs_at | (rw [gs_ne (by omega)]; (first | assumption | exact gs_at | (rw [gs_ne (by omega)]; (first | assumption | exact gs_at | (rw [gs_ne (by omega)]; (first | assumption | exact gs_at))))))))) rfl rfl (c_likelihood hH (by omega)) (Nat.le_of_ble_eq_true rfl) (Nat.le_of_ble_eq_true rfl) (Nat.le_of_ble_eq_true rfl) (Nat.le_of_ble_eq_true rfl) ?_
  first | refine w_imulN dX7_goesAhead_21 ?_ | refine w_imul dX7_goesAhead_21 ?_
  refine w_icmp_ge (tgt := 29) dX7_goesAhead_22 (by decide) (fun c_22 => ?_) (fun c_22 => ?_)
  · try simp (disch := omega) only [nI_b2, Decidable.not_not, nI_ltI, nI_leI, nI_eq, ge_iff_le, gt_iff_lt, ne_eq, Nat.not_lt, Nat.not_le] at c_22
    refine w_iconst (v := nI 0) dX7_goesAhead_29 (by decide) ?_
    refine w_zret dX7_goesAhead_30 rfl rfl (Nat.le_of_ble_eq_true rfl) (Nat.le_of_ble_eq_true rfl) ?_
    refine ⟨?_, rfl⟩
    first
      | (rw [b2, if_pos c_22]; done)
      | (rw [b2, if_neg (Nat.not_lt.mpr c_22)]; done)
  · try simp (disch := omega) only [nI_b2, Decidable.not_not, nI_ltI, nI_leI, nI_eq, ge_iff_le, gt_iff_lt, ne_eq, Nat.not_lt, Nat.not_le] at c_22
    refine w_iconst (v := nI 1) dX7_goesAhead_25 (by decide) ?_
    refine w_goto (tgt := 30) dX7_goesAhead_26 (by decide) ?_
    refine w_zret dX7_goesAhead_30 rfl rfl (Nat.le_of_ble_eq_true rfl) (Nat.le_of_ble_eq_true rfl) ?_
    refine ⟨?_, rfl⟩
    first
      | (rw [b2, if_pos c_22]; done)
      | (rw [b2, if_neg (Nat.not_lt.mpr c_22)]; done)
/-- the row below r holds rooms; a gap stands at p, what is above it up to r is rooms too -/
def rmO (o : Nat → Nat) (r p : Nat) : Prop := ∀ j, j < r + 1 → j ≠ p → o j < 6
theorem insO_lt {T : ST} {r : Nat} (hr : r < 6) : ∀ (p : Nat) (o : Nat → Nat), p ≤ r → rmO o r p → ∀ j, j < r + 1 → insO T r p o j < 6
  | 0, o, hp, ho, j, hj => by
    rw [insO]; unfold updF
    by_cases h : j = 0
    · rw [if_pos h]; exact hr
    · rw [if_neg h]; exact ho j hj h
  | p + 1, o, hp, ho, j, hj => by
    rw [insO]
    split
    · refine insO_lt hr p _ (by omega) (fun i hi hne => ?_) j hj
      unfold updF
      by_cases h : i = p + 1
      · rw [if_pos h]; exact ho p (by omega) (by omega)
      · rw [if_neg h]; exact ho i hi h
    · unfold updF
      by_cases h : j = p + 1
      · rw [if_pos h]; exact hr
      · rw [if_neg h]; exact ho j hj h
theorem ordO_lt {T : ST} {o0 : Nat → Nat} : ∀ r, r ≤ 6 → ∀ j, j < r → ordO T o0 r j < 6
  | 0, _, j, hj => absurd hj (Nat.not_lt_zero _)
  | r + 1, hr, j, hj => by
    rw [ordO]
    exact insO_lt (by omega) r _ (Nat.le_refl _) (fun i hi hne => ordO_lt r (by omega) i (by omega)) j hj
theorem lp_ord2 {E : EV} {Q : OC → AH → Prop} {r : Nat} {B tn im nw rm ru sp : Nat} {f : Nat → Nat} {wb sd si : Int32} {T Ti : ST} {D Di : LD} {P : Nat → ST × Int32} (hr : r < 6) : ∀ (p : Nat) (o : Nat → Nat) (G : AH), p ≤ r → rmO o r p → HI G B tn f wb T sd D im Ti si Di nw rm P ru sp → G.1 (B + 77) = some (aI 6 (fun i => nI (o i))) → (∀ (G1 : AH) (z : Value), HI G1 B tn f wb T sd D im Ti si Di nw rm P ru sp → FH G G1 B → G1.1 (B + 77) = some (aI 6 (fun i => nI ((insO T r p o) i))) → Wp E 5 0 0 kX7_orderRooms Q G1 (0, 0) 2 [.ref B, .int (nI (r + 1)), z] []) → Wp E 5 0 0 kX7_orderRooms Q G (0, 0) 10 [.ref B, .int (nI r), .int (nI p)] [] := by
  intro p
  induction p with
  | zero =>
    intro o G hp ho hH hw kk
    obtain ⟨hB, ⟨htn, him, hnw, hrm⟩, hT, hRd, ⟨hI, hBd⟩, hS, ⟨hL, hD, hSp, hrs⟩, ⟨hIi, hBi, hLi, hDi⟩, ⟨hPa, hPi⟩, ⟨⟨we, hwe⟩, hSm, hSv, ⟨od, hod⟩⟩⟩ := id hH; obtain ⟨⟨_, _, _, _, _, _, gS0⟩, _⟩ := id hS; have hI0 := hI.1; have hIi0 := hIi.1; have hSm0 := hSm.1; have hSv0 := hSv.1
    refine w_iload_n dX7_orderRooms_10 rfl ?_
    refine w_ifN_le (tgt := 56) dX7_orderRooms_11 (by decide) (fun c_11 => ?_) (fun c_11 => ?_)
    · skip
      refine w_aload_n dX7_orderRooms_56 rfl ?_
      refine w_getf dX7_orderRooms_57 fl_X7_87 (by first | assumption | exact gs_at | (rw [gs_ne (by omega)]; (first | assumption | exact gs_at | (rw [gs_ne (by omega)]; (first | assumption | exact gs_at | (rw [gs_ne (by omega)]; (first | assumption | exact gs_at | (rw [gs_ne (by omega)]; (first | assumption | exact gs_at))))))))) rfl ?_
      refine w_iload_n dX7_orderRooms_60 rfl ?_
      refine w_iload_n dX7_orderRooms_61 rfl ?_
      refine wS3n dX7_orderRooms_62 lk_X7_211 rfl (c_putN hw (by omega) (by decide)) (Nat.le_of_ble_eq_true rfl) (Nat.le_of_ble_eq_true rfl) (Nat.le_of_ble_eq_true rfl) (Nat.le_of_ble_eq_true rfl) ?_
      rw [upd_F]
      first | refine w_iinc_1 dX7_orderRooms_65 (nI_inc _) rfl ?_ | refine w_iinc_1 dX7_orderRooms_65 rfl rfl ?_
      refine w_goto (tgt := 2) dX7_orderRooms_68 (by decide) ?_
      exact kk _ _ hH.ordr (FH.gs (by omega) (by omega)) gs_at
    · skip
      exact absurd (Int32.le_refl (nI 0)) c_11
  | succ p ih =>
    intro o G hp ho hH hw kk
    obtain ⟨hB, ⟨htn, him, hnw, hrm⟩, hT, hRd, ⟨hI, hBd⟩, hS, ⟨hL, hD, hSp, hrs⟩, ⟨hIi, hBi, hLi, hDi⟩, ⟨hPa, hPi⟩, ⟨⟨we, hwe⟩, hSm, hSv, ⟨od, hod⟩⟩⟩ := id hH; obtain ⟨⟨_, _, _, _, _, _, gS0⟩, _⟩ := id hS; have hI0 := hI.1; have hIi0 := hIi.1; have hSm0 := hSm.1; have hSv0 := hSv.1
    have hop := ho p (by omega) (by omega)
    refine w_iload_n dX7_orderRooms_10 rfl ?_
    refine w_ifN_le (tgt := 56) dX7_orderRooms_11 (by decide) (fun c_11 => ?_) (fun c_11 => ?_)
    · try simp (disch := omega) only [nI_b2, Decidable.not_not, nI_ltI, nI_leI, nI_eq, ge_iff_le, gt_iff_lt, ne_eq, Nat.not_lt, Nat.not_le] at c_11
      exact absurd c_11 (by omega)
    · try simp (disch := omega) only [nI_b2, Decidable.not_not, nI_ltI, nI_leI, nI_eq, ge_iff_le, gt_iff_lt, ne_eq, Nat.not_lt, Nat.not_le] at c_11
      refine w_aload_n dX7_orderRooms_14 rfl ?_
      refine w_iload_n dX7_orderRooms_15 rfl ?_
      refine w_aload_n dX7_orderRooms_16 rfl ?_
      refine w_getf dX7_orderRooms_17 fl_X7_87 (by first | assumption | exact gs_at | (rw [gs_ne (by omega)]; (first | assumption | exact gs_at | (rw [gs_ne (by omega)]; (first | assumption | exact gs_at | (rw [gs_ne (by omega)]; (first | assumption | exact gs_at | (rw [gs_ne (by omega)]; (first | assumption | exact gs_at))))))))) rfl ?_
      refine w_iload_n dX7_orderRooms_20 rfl ?_
      refine w_iconst (v := nI 1) dX7_orderRooms_21 (by decide) ?_
      refine w_isubN (by omega) dX7_orderRooms_22 ?_
      refine wS2u dX7_orderRooms_23 lk_X7_137 rfl (c_atN (f := fun i => nI (o i)) (k := p + 1 - 1) hw (by omega) (by decide)) (Nat.le_of_ble_eq_true rfl) (Nat.le_of_ble_eq_true rfl) (Nat.le_of_ble_eq_true rfl) (Nat.le_of_ble_eq_true rfl) ?_
      rw [Nat.add_sub_cancel]
      refine wV2u dX7_orderRooms_26 lk_X7_381 rfl (by first | assumption | exact gs_at | (rw [gs_ne (by omega)]; (first | assumption | exact gs_at | (rw [gs_ne (by omega)]; (first | assumption | exact gs_at | (rw [gs_ne (by omega)]; (first | assumption | exact gs_at | (rw [gs_ne (by omega)]; (first | assumption | exact gs_at))))))))) rfl rfl (c_goesAhead hH hr hop) (Nat.le_of_ble_eq_true rfl) (Nat.le_of_ble_eq_true rfl) (Nat.le_of_ble_eq_true rfl) (Nat.le_of_ble_eq_true rfl) ?_
      refine w_ifN_eq (tgt := 56) dX7_orderRooms_29 (by decide) (fun c_29 => ?_) (fun c_29 => ?_)
      · try simp (disch := omega) only [nI_b2, Decidable.not_not, nI_ltI, nI_leI, nI_eq, ge_iff_le, gt_iff_lt, ne_eq, Nat.not_lt, Nat.not_le] at c_29
        refine w_aload_n dX7_orderRooms_56 rfl ?_
        refine w_getf dX7_orderRooms_57 fl_X7_87 (by first | assumption | exact gs_at | (rw [gs_ne (by omega)]; (first | assumption | exact gs_at | (rw [gs_ne (by omega)]; (first | assumption | exact gs_at | (rw [gs_ne (by omega)]; (first | assumption | exact gs_at | (rw [gs_ne (by omega)]; (first | assumption | exact gs_at))))))))) rfl ?_
        refine w_iload_n dX7_orderRooms_60 rfl ?_
        refine w_iload_n dX7_orderRooms_61 rfl ?_
        refine wS3n dX7_orderRooms_62 lk_X7_211 rfl (c_putN hw (by omega) (by decide)) (Nat.le_of_ble_eq_true rfl) (Nat.le_of_ble_eq_true rfl) (Nat.le_of_ble_eq_true rfl) (Nat.le_of_ble_eq_true rfl) ?_
        rw [upd_F]
        first | refine w_iinc_1 dX7_orderRooms_65 (nI_inc _) rfl ?_ | refine w_iinc_1 dX7_orderRooms_65 rfl rfl ?_
        refine w_goto (tgt := 2) dX7_orderRooms_68 (by decide) ?_
        exact kk _ _ hH.ordr (FH.gs (by omega) (by omega)) (by rw [insO, if_neg (Nat.not_lt.mpr c_29)]; exact gs_at)
      · try simp (disch := omega) only [nI_b2, Decidable.not_not, nI_ltI, nI_leI, nI_eq, ge_iff_le, gt_iff_lt, ne_eq, Nat.not_lt, Nat.not_le] at c_29
        refine w_aload_n dX7_orderRooms_32 rfl ?_
        refine w_getf dX7_orderRooms_33 fl_X7_87 (by first | assumption | exact gs_at | (rw [gs_ne (by omega)]; (first | assumption | exact gs_at | (rw [gs_ne (by omega)]; (first | assumption | exact gs_at | (rw [gs_ne (by omega)]; (first | assumption | exact gs_at | (rw [gs_ne (by omega)]; (first | assumption | exact gs_at))))))))) rfl ?_
        refine w_iload_n dX7_orderRooms_36 rfl ?_
        refine w_aload_n dX7_orderRooms_37 rfl ?_
        refine w_getf dX7_orderRooms_38 fl_X7_87 (by first | assumption | exact gs_at | (rw [gs_ne (by omega)]; (first | assumption | exact gs_at | (rw [gs_ne (by omega)]; (first | assumption | exact gs_at | (rw [gs_ne (by omega)]; (first | assumption | exact gs_at | (rw [gs_ne (by omega)]; (first | assumption | exact gs_at))))))))) rfl ?_
        refine w_iload_n dX7_orderRooms_41 rfl ?_
        refine w_iconst (v := nI 1) dX7_orderRooms_42 (by decide) ?_
        refine w_isubN (by omega) dX7_orderRooms_43 ?_
        refine wS2u dX7_orderRooms_44 lk_X7_137 rfl (c_atN (f := fun i => nI (o i)) (k := p + 1 - 1) hw (by omega) (by decide)) (Nat.le_of_ble_eq_true rfl) (Nat.le_of_ble_eq_true rfl) (Nat.le_of_ble_eq_true rfl) (Nat.le_of_ble_eq_true rfl) ?_
        rw [Nat.add_sub_cancel]
        refine wS3n dX7_orderRooms_47 lk_X7_211 rfl (c_putN hw (by omega) (by decide)) (Nat.le_of_ble_eq_true rfl) (Nat.le_of_ble_eq_true rfl) (Nat.le_of_ble_eq_true rfl) (Nat.le_of_ble_eq_true rfl) ?_
        rw [upd_F]
        refine w_iinc_2 dX7_orderRooms_50 (dec_N p) rfl ?_
        refine w_goto (tgt := 10) dX7_orderRooms_53 (by decide) ?_
        refine ih _ _ (by omega) (fun i hi hne => ?_) hH.ordr gs_at (fun G1 z a b c => kk G1 z a ((FH.gs (by omega) (by omega)).tr b) (by rw [insO, if_pos c_29]; exact c))
        unfold updF
        by_cases h : i = p + 1
        · rw [if_pos h]; exact hop
        · rw [if_neg h]; exact ho i hi h
theorem lp_ord {E : EV} {Q : OC → AH → Prop} {o0 : Nat → Nat} {G0 : AH} {B tn im nw rm ru sp : Nat} {f : Nat → Nat} {wb sd si : Int32} {T Ti : ST} {D Di : LD} {P : Nat → ST × Int32} (hQ : ∀ G1, HI G1 B tn f wb T sd D im Ti si Di nw rm P ru sp → FH G0 G1 B → G1.1 (B + 77) = some (aI 6 (fun i => nI ((ordO T o0 6) i))) → Q (.inl none) G1) : ∀ (k r : Nat) (G : AH) (z : Value), 6 - r < k → r ≤ 6 → HI G B tn f wb T sd D im Ti si Di nw rm P ru sp → FH G0 G B → G.1 (B + 77) = some (aI 6 (fun i => nI ((ordO T o0 r) i))) → Wp E 5 0 0 kX7_orderRooms Q G (0, 0) 2 [.ref B, .int (nI r), z] [] := by
  intro k
  induction k with
  | zero => intro r G z h; exact absurd h (by omega)
  | succ k ih =>
    intro r G z hk hr hH hFH hw
    obtain ⟨hB, ⟨htn, him, hnw, hrm⟩, hT, hRd, ⟨hI, hBd⟩, hS, ⟨hL, hD, hSp, hrs⟩, ⟨hIi, hBi, hLi, hDi⟩, ⟨hPa, hPi⟩, ⟨⟨we, hwe⟩, hSm, hSv, ⟨od, hod⟩⟩⟩ := id hH; obtain ⟨⟨_, _, _, _, _, _, gS0⟩, _⟩ := id hS; have hI0 := hI.1; have hIi0 := hIi.1; have hSm0 := hSm.1; have hSv0 := hSv.1
    refine w_iload_n dX7_orderRooms_2 rfl ?_
    refine w_bipush (v := nI 6) dX7_orderRooms_3 (by decide) ?_
    refine w_icmp_ge (tgt := 71) dX7_orderRooms_5 (by decide) (fun c_5 => ?_) (fun c_5 => ?_)
    · try simp (disch := omega) only [nI_b2, Decidable.not_not, nI_ltI, nI_leI, nI_eq, ge_iff_le, gt_iff_lt, ne_eq, Nat.not_lt, Nat.not_le] at c_5
      refine w_vret dX7_orderRooms_71 rfl (Nat.le_of_ble_eq_true rfl) (Nat.le_of_ble_eq_true rfl) ?_
      have e : r = 6 := by omega
      subst e
      exact hQ G hH hFH hw
    · try simp (disch := omega) only [nI_b2, Decidable.not_not, nI_ltI, nI_leI, nI_eq, ge_iff_le, gt_iff_lt, ne_eq, Nat.not_lt, Nat.not_le] at c_5
      refine w_iload_n dX7_orderRooms_8 rfl ?_
      refine w_istore_2 dX7_orderRooms_9 rfl ?_
      exact lp_ord2 (by omega) r (ordO T o0 r) G (Nat.le_refl _) (fun i hi hne => ordO_lt r (by omega) i (by omega)) hH hw (fun G1 z a b c => ih (r + 1) G1 z (by omega) (by omega) a (hFH.tr b) c)
theorem c_orderRooms {E : EV} {G : AH} {B tn im nw rm ru sp : Nat} {f : Nat → Nat} {wb sd si : Int32} {T Ti : ST} {D Di : LD} {P : Nat → ST × Int32}  (hH : HI G B tn f wb T sd D im Ti si Di nw rm P ru sp)  : Cd E 5 kX7_orderRooms [.ref B] G (fun G1 => HI G1 B tn f wb T sd D im Ti si Di nw rm P ru sp ∧ FH G G1 B ∧ ∃ o0 : Nat → Nat, G1.1 (B + 77) = some (aI 6 (fun i => nI ((ordO T o0 6) i)))) := by
  obtain ⟨hB, ⟨htn, him, hnw, hrm⟩, hT, hRd, ⟨hI, hBd⟩, hS, ⟨hL, hD, hSp, hrs⟩, ⟨hIi, hBi, hLi, hDi⟩, ⟨hPa, hPi⟩, ⟨⟨we, hwe⟩, hSm, hSv, ⟨od, hod⟩⟩⟩ := id hH; obtain ⟨⟨_, _, _, _, _, _, gS0⟩, _⟩ := id hS; have hI0 := hI.1; have hIi0 := hIi.1; have hSm0 := hSm.1; have hSv0 := hSv.1
  obtain ⟨i0, i1, i2, i3, i4, i5, i6, i7, i8, i9, i10, i11, i12, i13⟩ := id hI
  obtain ⟨b0, b1, b2_, b3, b4, b5, b6, b7, b8, b9, b10, b11, b12, b13, b14, b15, b16, b17, b18, b19⟩ := id hBd
  have hls := HI.ls hH
  have hla : ru + 6 ≤ B + 9 ∨ B + 9 + 14 ≤ ru := by omega
  have hlb : ru + 6 ≤ B + 23 ∨ B + 23 + 14 ≤ ru := by omega
  refine Ct.intro rfl (by decide) [.ref B, .float 0, .float 0] (by simp [Value.category]) (Nat.le_of_ble_eq_true rfl) rfl ?_
  refine w_iconst (v := nI 0) dX7_orderRooms_0 (by decide) ?_
  refine w_istore_1 dX7_orderRooms_1 rfl ?_
  refine lp_ord (o0 := fun i => nOf (od i)) (fun G1 a b c => ⟨rfl, a, b, _, c⟩) 7 0 G (.float 0) (by omega) (by omega) hH FH.rf ?_
  rw [hod]
  congr 2
  funext i
  exact (nI_nOf _).symm
