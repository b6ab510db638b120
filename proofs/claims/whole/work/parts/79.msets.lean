/-! the model: what lightens -/
theorem smB_mono {g : Nat → Nat} {s : Nat} : ∀ (j k : Nat), smB g s k ≤ smB g s (k + j)
  | 0, k => Nat.le_refl _
  | j + 1, k => by have := smB_mono (g := g) (s := s) j k; rw [show k + (j + 1) = (k + j) + 1 by omega, smB]; omega
theorem ml_ltI {E : EV} {Q : OC → AH → Prop} {V : Nat} {th hi ac tp ba en at_ fa dp io hm_ we sh so : Int32} {mm : Nat → Int32} {T : ST} {sd : Int32} {G : AH} {n due X s : Nat} {x : Int32} (hV : G.1 V = some (mO V th hi ac tp ba en at_ fa dp io hm_ we sh so)) (hm : G.1 (V + 1) = some (aI 750 mm)) (hR : MoR mm T sd) (hB : Bd T) (hs : s < 2 ^ 31) (hX : X + smB (worN T) s (T 12 0) ≤ due) (hd : due ≤ 4000) (kk : Wp E 5 0 0 kX8_lighten Q G (0, 0) 132 [.ref V, .int (nI n), .int (nI due), .int x, .int (nI (s)), .int (nI (due - X - smB (worN T) s (T 12 0))), .int (nI (T 12 0))] []) : ∀ (k i : Nat), T 12 0 - i < k → i ≤ T 12 0 → Wp E 5 0 0 kX8_lighten Q G (0, 0) 90 [.ref V, .int (nI n), .int (nI due), .int x, .int (nI (s)), .int (nI (due - X - smB (worN T) s i)), .int (nI i)] [] := by
  obtain ⟨r0, r3, r4, r5, r6, r7, r9, r11, r12, r14, r20, r26, rL⟩ := id hR
  obtain ⟨b0, b1, b2_, b3, b4, b5, b6, b7, b8, b9, b10, b11, b12, b13, b14, b15, b16, b17, b18, b19⟩ := id hB
  intro k
  induction k with
  | zero => intro i h; exact absurd h (by omega)
  | succ k ih =>
    intro i hk hi
    refine w_iload dX8_lighten_90 rfl ?_
    refine w_aload_n dX8_lighten_92 rfl ?_
    refine w_getf dX8_lighten_93 fl_X8_7 (by first | assumption | exact gs_at | (rw [gs_ne (by omega)]; (first | assumption | exact gs_at | (rw [gs_ne (by omega)]; (first | assumption | exact gs_at | (rw [gs_ne (by omega)]; (first | assumption | exact gs_at | (rw [gs_ne (by omega)]; (first | assumption | exact gs_at))))))))) rfl ?_
    refine w_iconst (v := nI 3) dX8_lighten_96 (by decide) ?_
    refine w_iaload dX8_lighten_97 (by first | assumption | exact gs_at | (rw [gs_ne (by omega)]; (first | assumption | exact gs_at | (rw [gs_ne (by omega)]; (first | assumption | exact gs_at | (rw [gs_ne (by omega)]; (first | assumption | exact gs_at | (rw [gs_ne (by omega)]; (first | assumption | exact gs_at))))))))) (by first | assumption | exact vp_in_nI (by omega) (by omega) | exact vp_in_nI (by assumption) (by omega)) ?_
    rw [nI_clamp (by omega)]
    first | rw [r3] | rw [r4] | rw [r5] | rw [r6] | rw [r0] | rw [r11] | rw [r12] | rw [r7 _ (by omega)] | rw [r9 _ (by omega)] | rw [r14 _ (by omega)] | rw [r20 _ (by omega)] | rw [r26 _ _ (by omega) (by omega)] | skip
    refine w_icmp_ge (tgt := 132) dX8_lighten_98 (by decide) (fun c_98 => ?_) (fun c_98 => ?_)
    · try simp (disch := omega) only [nI_b2, Decidable.not_not, nI_ltI, nI_leI, nI_eq, ge_iff_le, gt_iff_lt, ne_eq, Nat.not_lt, Nat.not_le] at c_98
      have e : i = T 12 0 := by omega
      subst e
      exact kk
    · try simp (disch := omega) only [nI_b2, Decidable.not_not, nI_ltI, nI_leI, nI_eq, ge_iff_le, gt_iff_lt, ne_eq, Nat.not_lt, Nat.not_le] at c_98
      have hmo := smB_mono (g := worN T) (s := s) (T 12 0 - (i + 1)) (i + 1)
      rw [show i + 1 + (T 12 0 - (i + 1)) = T 12 0 by omega, smB] at hmo
      refine w_iload dX8_lighten_101 rfl ?_
      refine w_iload dX8_lighten_103 rfl ?_
      refine w_iload dX8_lighten_105 rfl ?_
      refine wS2u dX8_lighten_107 lk_X8_240 rfl (m_isOf hs (by omega)) (Nat.le_of_ble_eq_true rfl) (Nat.le_of_ble_eq_true rfl) (Nat.le_of_ble_eq_true rfl) (Nat.le_of_ble_eq_true rfl) ?_
      refine w_ifN_eq (tgt := 122) dX8_lighten_110 (by decide) (fun c_110 => ?_) (fun c_110 => ?_)
      · try simp (disch := omega) only [nI_b2, Decidable.not_not, nI_ltI, nI_leI, nI_eq, ge_iff_le, gt_iff_lt, ne_eq, Nat.not_lt, Nat.not_le] at c_110
        refine w_iconst (v := nI 0) dX8_lighten_122 (by decide) ?_
        refine w_isubN (by omega) dX8_lighten_123 ?_
        refine w_istore_5 dX8_lighten_124 rfl ?_
        first | refine w_iinc_6 dX8_lighten_126 (nI_inc _) rfl ?_ | refine w_iinc_6 dX8_lighten_126 rfl rfl ?_
        refine w_goto (tgt := 90) dX8_lighten_129 (by decide) ?_
        have hN := ih (i + 1) (by omega) (by omega)
        rw [smB, Nat.sub_add_eq] at hN
        first
          | (rw [if_pos c_110] at hN; exact hN)
          | (rw [if_neg c_110] at hN; exact hN)
      · try simp (disch := omega) only [nI_b2, Decidable.not_not, nI_ltI, nI_leI, nI_eq, ge_iff_le, gt_iff_lt, ne_eq, Nat.not_lt, Nat.not_le] at c_110
        rw [if_pos c_110] at hmo
        refine w_aload_n dX8_lighten_113 rfl ?_
        refine w_iload dX8_lighten_114 rfl ?_
        refine wV1u dX8_lighten_116 lk_X8_228 rfl (by first | assumption | exact gs_at | (rw [gs_ne (by omega)]; (first | assumption | exact gs_at | (rw [gs_ne (by omega)]; (first | assumption | exact gs_at | (rw [gs_ne (by omega)]; (first | assumption | exact gs_at | (rw [gs_ne (by omega)]; (first | assumption | exact gs_at))))))))) rfl rfl (m_worseBy hV hm hR hB (by omega)) (Nat.le_of_ble_eq_true rfl) (Nat.le_of_ble_eq_true rfl) (Nat.le_of_ble_eq_true rfl) (Nat.le_of_ble_eq_true rfl) ?_
        refine w_goto (tgt := 123) dX8_lighten_119 (by decide) ?_
        refine w_isubN (by omega) dX8_lighten_123 ?_
        refine w_istore_5 dX8_lighten_124 rfl ?_
        first | refine w_iinc_6 dX8_lighten_126 (nI_inc _) rfl ?_ | refine w_iinc_6 dX8_lighten_126 rfl rfl ?_
        refine w_goto (tgt := 90) dX8_lighten_129 (by decide) ?_
        have hN := ih (i + 1) (by omega) (by omega)
        rw [smB, Nat.sub_add_eq] at hN
        first
          | (rw [if_pos c_110] at hN; exact hN)
          | (rw [if_neg c_110] at hN; exact hN)
theorem ml_lt {E : EV} {Q : OC → AH → Prop} {V : Nat} {th hi ac tp ba en at_ fa dp io hm_ we sh so : Int32} {mm : Nat → Int32} {T : ST} {sd : Int32} {G : AH} {n : Nat} (hV : G.1 V = some (mO V th hi ac tp ba en at_ fa dp io hm_ we sh so)) (hm : G.1 (V + 1) = some (aI 750 mm)) (hR : MoR mm T sd) (hB : Bd T) (hn : n ≤ 9999) (hQ : Q (.inl (some (.int (ltR T n (1 * 2 ^ T 12 0)).1))) G) : ∀ (k i : Nat), 1 * 2 ^ T 12 0 - i < k → i ≤ 1 * 2 ^ T 12 0 → ∀ z z2 : Value, Wp E 5 0 0 kX8_lighten Q G (0, 0) 39 [.ref V, .int (nI n), .int (nI (dueN T)), .int (ltR T n i).1, .int (nI (i)), z, z2] [] := by
  obtain ⟨r0, r3, r4, r5, r6, r7, r9, r11, r12, r14, r20, r26, rL⟩ := id hR
  obtain ⟨b0, b1, b2_, b3, b4, b5, b6, b7, b8, b9, b10, b11, b12, b13, b14, b15, b16, b17, b18, b19⟩ := id hB
  have hp := p2_12 b0
  have hdu := due_le hB
  have hb9 := bitN_12 (mis T) b0
  intro k
  induction k with
  | zero => intro i h; exact absurd h (by omega)
  | succ k ih =>
    intro i hk hi4 z z2
    have hX := owe_sm T i (T 12 0) (T 12 0) (Nat.le_refl _)
    have hW := owe_le_due T i (T 12 0) (Nat.le_refl _)
    have hS := owe_sb hB i
    have hal := Nat.and_le_left (n := i) (m := bitN (mis T) (T 12 0))
    have hcn := cntN_le i 12
    have hinv : ((ltR T n i).1 = -1 ∧ (ltR T n i).2 = 13) ∨ ∃ f, f < i ∧ (ltR T n i).1 = nI f ∧ (ltR T n i).2 = cntN 12 f := ltS_inv i
    have hN := ih (i + 1)
    have hst : ltR T n (i + 1) = if dueN T ≤ sb12 (oweN T) i + n ∧ cntN 12 i < (ltR T n i).2 then (nI i, cntN 12 i) else ltR T n i := rfl
    rcases hinv with ⟨e1, e2⟩ | ⟨f, hf, e1, e2⟩
    · rw [e1]
      refine w_iload dX8_lighten_39 rfl ?_
      refine w_iconst (v := nI 1) dX8_lighten_41 (by decide) ?_
      refine w_aload_n dX8_lighten_42 rfl ?_
      refine w_getf dX8_lighten_43 fl_X8_7 (by first | assumption | exact gs_at | (rw [gs_ne (by omega)]; (first | assumption | exact gs_at | (rw [gs_ne (by omega)]; (first | assumption | exact gs_at | (rw [gs_ne (by omega)]; (first | assumption | exact gs_at | (rw [gs_ne (by omega)]; (first | assumption | exact gs_at))))))))) rfl ?_
      refine w_iconst (v := nI 3) dX8_lighten_46 (by decide) ?_
      refine w_iaload dX8_lighten_47 (by first | assumption | exact gs_at | (rw [gs_ne (by omega)]; (first | assumption | exact gs_at | (rw [gs_ne (by omega)]; (first | assumption | exact gs_at | (rw [gs_ne (by omega)]; (first | assumption | exact gs_at | (rw [gs_ne (by omega)]; (first | assumption | exact gs_at))))))))) (by first | assumption | exact vp_in_nI (by omega) (by omega) | exact vp_in_nI (by assumption) (by omega)) ?_
      rw [nI_clamp (by omega)]
      first | rw [r3] | rw [r4] | rw [r5] | rw [r6] | rw [r0] | rw [r11] | rw [r12] | rw [r7 _ (by omega)] | rw [r9 _ (by omega)] | rw [r14 _ (by omega)] | rw [r20 _ (by omega)] | rw [r26 _ _ (by omega) (by omega)] | skip
      refine w_ishlN (by omega) (by omega) dX8_lighten_48 ?_
      refine w_icmp_ge (tgt := 147) dX8_lighten_49 (by decide) (fun c_49 => ?_) (fun c_49 => ?_)
      · try simp (disch := omega) only [nI_ltI, nI_leI, gt_iff_lt, ne_eq, Nat.not_lt, Nat.not_le] at c_49
        refine w_iload_n dX8_lighten_147 rfl ?_
        refine w_iret dX8_lighten_148 rfl (Nat.le_of_ble_eq_true rfl) (Nat.le_of_ble_eq_true rfl) ?_
        have e : i = 1 * 2 ^ T 12 0 := by omega
        subst e
        rw [e1] at hQ
        exact hQ
      · try simp (disch := omega) only [nI_ltI, nI_leI, gt_iff_lt, ne_eq, Nat.not_lt, Nat.not_le] at c_49
        refine w_iload_n dX8_lighten_52 rfl ?_
        refine w_iconst (v := (-1)) dX8_lighten_53 (by decide) ?_
        refine w_icmp_eq (tgt := 72) dX8_lighten_54 (by decide) (fun c_54 => ?_) (fun c_54 => ?_)
        · try simp (disch := omega) only [nI_ltI, nI_leI, gt_iff_lt, ne_eq, Nat.not_lt, Nat.not_le] at c_54
          refine w_iload_n dX8_lighten_72 rfl ?_
          refine w_aload_n dX8_lighten_73 rfl ?_
          refine w_iload dX8_lighten_74 rfl ?_
          refine w_aload_n dX8_lighten_76 rfl ?_
          refine wV0u dX8_lighten_77 lk_X8_253 rfl (by first | assumption | exact gs_at | (rw [gs_ne (by omega)]; (first | assumption | exact gs_at | (rw [gs_ne (by omega)]; (first | assumption | exact gs_at | (rw [gs_ne (by omega)]; (first | assumption | exact gs_at | (rw [gs_ne (by omega)]; (first | assumption | exact gs_at))))))))) rfl rfl (m_missingOnes hV hm hR hB) (Nat.le_of_ble_eq_true rfl) (Nat.le_of_ble_eq_true rfl) (Nat.le_of_ble_eq_true rfl) (Nat.le_of_ble_eq_true rfl) ?_
          first | refine w_iandN dX8_lighten_80 ?_ | refine w_iand dX8_lighten_80 ?_
          refine wV1u dX8_lighten_81 lk_X8_256 rfl (by first | assumption | exact gs_at | (rw [gs_ne (by omega)]; (first | assumption | exact gs_at | (rw [gs_ne (by omega)]; (first | assumption | exact gs_at | (rw [gs_ne (by omega)]; (first | assumption | exact gs_at | (rw [gs_ne (by omega)]; (first | assumption | exact gs_at))))))))) rfl rfl (m_valueOf hV hm hR hB (by omega)) (Nat.le_of_ble_eq_true rfl) (Nat.le_of_ble_eq_true rfl) (Nat.le_of_ble_eq_true rfl) (Nat.le_of_ble_eq_true rfl) ?_
          refine w_isubN (by omega) dX8_lighten_84 ?_
          refine w_istore_5 dX8_lighten_85 rfl ?_
          refine w_iconst (v := nI 0) dX8_lighten_87 (by decide) ?_
          refine w_istore_6 dX8_lighten_88 rfl ?_
          refine ml_ltI (n := n) (due := dueN T) (X := vlN T (i &&& bitN (mis T) (T 12 0)) (T 12 0)) hV hm hR hB (by omega) (by omega) (by omega) ?_ (T 12 0 + 1) 0 (by omega) (by omega)
          refine w_iload dX8_lighten_132 rfl ?_
          refine w_iload_n dX8_lighten_134 rfl ?_
          refine w_icmp_gt (tgt := 141) dX8_lighten_135 (by decide) (fun c_135 => ?_) (fun c_135 => ?_)
          · try simp (disch := omega) only [nI_ltI, nI_leI, gt_iff_lt, ne_eq, Nat.not_lt, Nat.not_le] at c_135
            first | refine w_iinc_4 dX8_lighten_141 (nI_inc _) rfl ?_ | refine w_iinc_4 dX8_lighten_141 rfl rfl ?_
            refine w_goto (tgt := 39) dX8_lighten_144 (by decide) ?_
            first
              | (have h9 := hN (by omega) (by omega) (.int (nI (dueN T - vlN T (i &&& bitN (mis T) (T 12 0)) (T 12 0) - smB (worN T) i (T 12 0)))) (.int (nI (T 12 0))); rw [hst, if_pos ⟨by omega, by omega⟩] at h9; exact h9)
              | (have h9 := hN (by omega) (by omega) (.int (nI (dueN T - vlN T (i &&& bitN (mis T) (T 12 0)) (T 12 0) - smB (worN T) i (T 12 0)))) (.int (nI (T 12 0))); rw [hst, if_neg (fun h => by have h1 := h.1; omega), e1] at h9; exact h9)
          · try simp (disch := omega) only [nI_ltI, nI_leI, gt_iff_lt, ne_eq, Nat.not_lt, Nat.not_le] at c_135
            refine w_iload dX8_lighten_138 rfl ?_
            refine w_istore_3 dX8_lighten_140 rfl ?_
            first | refine w_iinc_4 dX8_lighten_141 (nI_inc _) rfl ?_ | refine w_iinc_4 dX8_lighten_141 rfl rfl ?_
            refine w_goto (tgt := 39) dX8_lighten_144 (by decide) ?_
            first
              | (have h9 := hN (by omega) (by omega) (.int (nI (dueN T - vlN T (i &&& bitN (mis T) (T 12 0)) (T 12 0) - smB (worN T) i (T 12 0)))) (.int (nI (T 12 0))); rw [hst, if_pos ⟨by omega, by omega⟩] at h9; exact h9)
              | (have h9 := hN (by omega) (by omega) (.int (nI (dueN T - vlN T (i &&& bitN (mis T) (T 12 0)) (T 12 0) - smB (worN T) i (T 12 0)))) (.int (nI (T 12 0))); rw [hst, if_neg (fun h => by have h1 := h.1; omega), e1] at h9; exact h9)
        · try simp (disch := omega) only [nI_ltI, nI_leI, gt_iff_lt, ne_eq, Nat.not_lt, Nat.not_le] at c_54
          exact (c_54 trivial).elim
    · rw [e1]
      refine w_iload dX8_lighten_39 rfl ?_
      refine w_iconst (v := nI 1) dX8_lighten_41 (by decide) ?_
      refine w_aload_n dX8_lighten_42 rfl ?_
      refine w_getf dX8_lighten_43 fl_X8_7 (by first | assumption | exact gs_at | (rw [gs_ne (by omega)]; (first | assumption | exact gs_at | (rw [gs_ne (by omega)]; (first | assumption | exact gs_at | (rw [gs_ne (by omega)]; (first | assumption | exact gs_at | (rw [gs_ne (by omega)]; (first | assumption | exact gs_at))))))))) rfl ?_
      refine w_iconst (v := nI 3) dX8_lighten_46 (by decide) ?_
      refine w_iaload dX8_lighten_47 (by first | assumption | exact gs_at | (rw [gs_ne (by omega)]; (first | assumption | exact gs_at | (rw [gs_ne (by omega)]; (first | assumption | exact gs_at | (rw [gs_ne (by omega)]; (first | assumption | exact gs_at | (rw [gs_ne (by omega)]; (first | assumption | exact gs_at))))))))) (by first | assumption | exact vp_in_nI (by omega) (by omega) | exact vp_in_nI (by assumption) (by omega)) ?_
      rw [nI_clamp (by omega)]
      first | rw [r3] | rw [r4] | rw [r5] | rw [r6] | rw [r0] | rw [r11] | rw [r12] | rw [r7 _ (by omega)] | rw [r9 _ (by omega)] | rw [r14 _ (by omega)] | rw [r20 _ (by omega)] | rw [r26 _ _ (by omega) (by omega)] | skip
      refine w_ishlN (by omega) (by omega) dX8_lighten_48 ?_
      refine w_icmp_ge (tgt := 147) dX8_lighten_49 (by decide) (fun c_49 => ?_) (fun c_49 => ?_)
      · try simp (disch := omega) only [nI_ltI, nI_leI, gt_iff_lt, ne_eq, Nat.not_lt, Nat.not_le] at c_49
        refine w_iload_n dX8_lighten_147 rfl ?_
        refine w_iret dX8_lighten_148 rfl (Nat.le_of_ble_eq_true rfl) (Nat.le_of_ble_eq_true rfl) ?_
        have e : i = 1 * 2 ^ T 12 0 := by omega
        subst e
        rw [e1] at hQ
        exact hQ
      · try simp (disch := omega) only [nI_ltI, nI_leI, gt_iff_lt, ne_eq, Nat.not_lt, Nat.not_le] at c_49
        refine w_iload_n dX8_lighten_52 rfl ?_
        refine w_iconst (v := (-1)) dX8_lighten_53 (by decide) ?_
        refine w_icmp_eq (tgt := 72) dX8_lighten_54 (by decide) (fun c_54 => ?_) (fun c_54 => ?_)
        · try simp (disch := omega) only [nI_ltI, nI_leI, gt_iff_lt, ne_eq, Nat.not_lt, Nat.not_le] at c_54
          exact absurd c_54 (nI_nm1 (by omega))
        · try simp (disch := omega) only [nI_ltI, nI_leI, gt_iff_lt, ne_eq, Nat.not_lt, Nat.not_le] at c_54
          refine w_iload dX8_lighten_57 rfl ?_
          refine wS1u dX8_lighten_59 lk_X8_262 rfl (m_bits (by omega)) (Nat.le_of_ble_eq_true rfl) (Nat.le_of_ble_eq_true rfl) (Nat.le_of_ble_eq_true rfl) (Nat.le_of_ble_eq_true rfl) ?_
          refine w_iload_n dX8_lighten_62 rfl ?_
          refine wS1u dX8_lighten_63 lk_X8_262 rfl (m_bits (by omega)) (Nat.le_of_ble_eq_true rfl) (Nat.le_of_ble_eq_true rfl) (Nat.le_of_ble_eq_true rfl) (Nat.le_of_ble_eq_true rfl) ?_
          have hcf := cntN_le f 12
          refine w_icmp_lt (tgt := 72) dX8_lighten_66 (by decide) (fun c_66 => ?_) (fun c_66 => ?_)
          · try simp (disch := omega) only [nI_ltI, nI_leI, gt_iff_lt, ne_eq, Nat.not_lt, Nat.not_le] at c_66
            refine w_iload_n dX8_lighten_72 rfl ?_
            refine w_aload_n dX8_lighten_73 rfl ?_
            refine w_iload dX8_lighten_74 rfl ?_
            refine w_aload_n dX8_lighten_76 rfl ?_
            refine wV0u dX8_lighten_77 lk_X8_253 rfl (by first | assumption | exact gs_at | (rw [gs_ne (by omega)]; (first | assumption | exact gs_at | (rw [gs_ne (by omega)]; (first | assumption | exact gs_at | (rw [gs_ne (by omega)]; (first | assumption | exact gs_at | (rw [gs_ne (by omega)]; (first | assumption | exact gs_at))))))))) rfl rfl (m_missingOnes hV hm hR hB) (Nat.le_of_ble_eq_true rfl) (Nat.le_of_ble_eq_true rfl) (Nat.le_of_ble_eq_true rfl) (Nat.le_of_ble_eq_true rfl) ?_
            first | refine w_iandN dX8_lighten_80 ?_ | refine w_iand dX8_lighten_80 ?_
            refine wV1u dX8_lighten_81 lk_X8_256 rfl (by first | assumption | exact gs_at | (rw [gs_ne (by omega)]; (first | assumption | exact gs_at | (rw [gs_ne (by omega)]; (first | assumption | exact gs_at | (rw [gs_ne (by omega)]; (first | assumption | exact gs_at | (rw [gs_ne (by omega)]; (first | assumption | exact gs_at))))))))) rfl rfl (m_valueOf hV hm hR hB (by omega)) (Nat.le_of_ble_eq_true rfl) (Nat.le_of_ble_eq_true rfl) (Nat.le_of_ble_eq_true rfl) (Nat.le_of_ble_eq_true rfl) ?_
            refine w_isubN (by omega) dX8_lighten_84 ?_
            refine w_istore_5 dX8_lighten_85 rfl ?_
            refine w_iconst (v := nI 0) dX8_lighten_87 (by decide) ?_
            refine w_istore_6 dX8_lighten_88 rfl ?_
            refine ml_ltI (n := n) (due := dueN T) (X := vlN T (i &&& bitN (mis T) (T 12 0)) (T 12 0)) hV hm hR hB (by omega) (by omega) (by omega) ?_ (T 12 0 + 1) 0 (by omega) (by omega)
            refine w_iload dX8_lighten_132 rfl ?_
            refine w_iload_n dX8_lighten_134 rfl ?_
            refine w_icmp_gt (tgt := 141) dX8_lighten_135 (by decide) (fun c_135 => ?_) (fun c_135 => ?_)
            · try simp (disch := omega) only [nI_ltI, nI_leI, gt_iff_lt, ne_eq, Nat.not_lt, Nat.not_le] at c_135
              first | refine w_iinc_4 dX8_lighten_141 (nI_inc _) rfl ?_ | refine w_iinc_4 dX8_lighten_141 rfl rfl ?_
              refine w_goto (tgt := 39) dX8_lighten_144 (by decide) ?_
              first
                | (have h9 := hN (by omega) (by omega) (.int (nI (dueN T - vlN T (i &&& bitN (mis T) (T 12 0)) (T 12 0) - smB (worN T) i (T 12 0)))) (.int (nI (T 12 0))); rw [hst, if_pos ⟨by omega, by omega⟩] at h9; exact h9)
                | (have h9 := hN (by omega) (by omega) (.int (nI (dueN T - vlN T (i &&& bitN (mis T) (T 12 0)) (T 12 0) - smB (worN T) i (T 12 0)))) (.int (nI (T 12 0))); rw [hst, if_neg (fun h => by have h1 := h.1; omega), e1] at h9; exact h9)
            · try simp (disch := omega) only [nI_ltI, nI_leI, gt_iff_lt, ne_eq, Nat.not_lt, Nat.not_le] at c_135
              refine w_iload dX8_lighten_138 rfl ?_
              refine w_istore_3 dX8_lighten_140 rfl ?_
              first | refine w_iinc_4 dX8_lighten_141 (nI_inc _) rfl ?_ | refine w_iinc_4 dX8_lighten_141 rfl rfl ?_
              refine w_goto (tgt := 39) dX8_lighten_144 (by decide) ?_
              first
                | (have h9 := hN (by omega) (by omega) (.int (nI (dueN T - vlN T (i &&& bitN (mis T) (T 12 0)) (T 12 0) - smB (worN T) i (T 12 0)))) (.int (nI (T 12 0))); rw [hst, if_pos ⟨by omega, by omega⟩] at h9; exact h9)
                | (have h9 := hN (by omega) (by omega) (.int (nI (dueN T - vlN T (i &&& bitN (mis T) (T 12 0)) (T 12 0) - smB (worN T) i (T 12 0)))) (.int (nI (T 12 0))); rw [hst, if_neg (fun h => by have h1 := h.1; omega), e1] at h9; exact h9)
          · try simp (disch := omega) only [nI_ltI, nI_leI, gt_iff_lt, ne_eq, Nat.not_lt, Nat.not_le] at c_66
            refine w_goto (tgt := 141) dX8_lighten_69 (by decide) ?_
            first | refine w_iinc_4 dX8_lighten_141 (nI_inc _) rfl ?_ | refine w_iinc_4 dX8_lighten_141 rfl rfl ?_
            refine w_goto (tgt := 39) dX8_lighten_144 (by decide) ?_
            have h9 := hN (by omega) (by omega) z z2
            rw [hst, if_neg (fun h => by have h1 := h.2; omega), e1] at h9
            exact h9
theorem mr_m_lighten {E : EV} {Q : OC → AH → Prop} {V : Nat} {th hi ac tp ba en at_ fa dp io hm_ we sh so : Int32} {G : AH} {x : Int32} {j : Nat} (hV : G.1 V = some (mO V th hi ac tp ba en at_ fa dp io hm_ we sh so)) (hj : 0 < j ∧ j < 4) (hQ : Q (.inl (some (.int (nI 0)))) (gs G V (mO V (nI j) hi ac tp ba en at_ fa dp io hm_ we sh so))) : Wp E 5 0 0 kX8_lighten Q G (0, 0) 17 [.ref V, .int x, .float 0, .float 0, .float 0, .float 0, .float 0] [.int (nI j), .ref V] := by
  refine w_putf dX8_lighten_17 fl_X8_39 (by first | assumption | exact gs_at | (rw [gs_ne (by omega)]; (first | assumption | exact gs_at | (rw [gs_ne (by omega)]; (first | assumption | exact gs_at | (rw [gs_ne (by omega)]; (first | assumption | exact gs_at | (rw [gs_ne (by omega)]; (first | assumption | exact gs_at))))))))) (by simp) rfl rfl ?_
  refine w_aload_n dX8_lighten_20 rfl ?_
  refine w_getf dX8_lighten_21 fl_X8_39 (by first | assumption | exact gs_at | (rw [gs_ne (by omega)]; (first | assumption | exact gs_at | (rw [gs_ne (by omega)]; (first | assumption | exact gs_at | (rw [gs_ne (by omega)]; (first | assumption | exact gs_at | (rw [gs_ne (by omega)]; (first | assumption | exact gs_at))))))))) rfl ?_
  refine w_ifN_le (tgt := 29) dX8_lighten_24 (by decide) (fun c_24 => ?_) (fun c_24 => ?_)
  · try simp (disch := omega) only [nI_b2, Decidable.not_not, nI_ltI, nI_leI, nI_eq, ge_iff_le, gt_iff_lt, ne_eq, Nat.not_lt, Nat.not_le] at c_24
    exact absurd c_24 (by omega)
  · try simp (disch := omega) only [nI_b2, Decidable.not_not, nI_ltI, nI_leI, nI_eq, ge_iff_le, gt_iff_lt, ne_eq, Nat.not_lt, Nat.not_le] at c_24
    refine w_iconst (v := nI 0) dX8_lighten_27 (by decide) ?_
    refine w_iret dX8_lighten_28 rfl (Nat.le_of_ble_eq_true rfl) (Nat.le_of_ble_eq_true rfl) ?_
    exact hQ
theorem mk_m_lighten {E : EV} {Q : OC → AH → Prop} {V : Nat} {th hi ac tp ba en at_ fa dp io hm_ we sh so : Int32} {mm : Nat → Int32} {T : ST} {sd : Int32} {G : AH} {n : Nat} (hn : n ≤ 9999) (hV : G.1 V = some (mO V th hi ac tp ba en at_ fa dp io hm_ we sh so)) (hm : G.1 (V + 1) = some (aI 750 mm)) (hR : MoR mm T sd) (hB : Bd T) (hQ : Q (.inl (some (.int ((ltR T n (1 * 2 ^ T 12 0)).1)))) (gs G V (mO V (nI 0) hi ac tp ba en at_ fa dp io hm_ we sh so))) : Wp E 5 0 0 kX8_lighten Q G (0, 0) 17 [.ref V, .int (nI n), .float 0, .float 0, .float 0, .float 0, .float 0] [.int (nI 0), .ref V] := by
  obtain ⟨r0, r3, r4, r5, r6, r7, r9, r11, r12, r14, r20, r26, rL⟩ := id hR
  obtain ⟨b0, b1, b2_, b3, b4, b5, b6, b7, b8, b9, b10, b11, b12, b13, b14, b15, b16, b17, b18, b19⟩ := id hB
  have hV2 : (gs G V (mO V (nI 0) hi ac tp ba en at_ fa dp io hm_ we sh so)).1 V = some (mO V (nI 0) hi ac tp ba en at_ fa dp io hm_ we sh so) := gs_at
  have hm2 : (gs G V (mO V (nI 0) hi ac tp ba en at_ fa dp io hm_ we sh so)).1 (V + 1) = some (aI 750 mm) := (gs_ne (by omega)).trans hm
  refine w_putf dX8_lighten_17 fl_X8_39 (by first | assumption | exact gs_at | (rw [gs_ne (by omega)]; (first | assumption | exact gs_at | (rw [gs_ne (by omega)]; (first | assumption | exact gs_at | (rw [gs_ne (by omega)]; (first | assumption | exact gs_at | (rw [gs_ne (by omega)]; (first | assumption | exact gs_at))))))))) (by simp) rfl rfl ?_
  refine w_aload_n dX8_lighten_20 rfl ?_
  refine w_getf dX8_lighten_21 fl_X8_39 (by first | assumption | exact gs_at | (rw [gs_ne (by omega)]; (first | assumption | exact gs_at | (rw [gs_ne (by omega)]; (first | assumption | exact gs_at | (rw [gs_ne (by omega)]; (first | assumption | exact gs_at | (rw [gs_ne (by omega)]; (first | assumption | exact gs_at))))))))) rfl ?_
  refine w_ifN_le (tgt := 29) dX8_lighten_24 (by decide) (fun c_24 => ?_) (fun c_24 => ?_)
  · try simp (disch := omega) only [nI_b2, Decidable.not_not, nI_ltI, nI_leI, nI_eq, ge_iff_le, gt_iff_lt, ne_eq, Nat.not_lt, Nat.not_le] at c_24
    refine w_aload_n dX8_lighten_29 rfl ?_
    refine wV0u dX8_lighten_30 lk_X8_259 rfl (by first | assumption | exact gs_at | (rw [gs_ne (by omega)]; (first | assumption | exact gs_at | (rw [gs_ne (by omega)]; (first | assumption | exact gs_at | (rw [gs_ne (by omega)]; (first | assumption | exact gs_at | (rw [gs_ne (by omega)]; (first | assumption | exact gs_at))))))))) rfl rfl (m_owedNow hV2 hm2 hR hB) (Nat.le_of_ble_eq_true rfl) (Nat.le_of_ble_eq_true rfl) (Nat.le_of_ble_eq_true rfl) (Nat.le_of_ble_eq_true rfl) ?_
    refine w_istore_2 dX8_lighten_33 rfl ?_
    refine w_iconst (v := (-1)) dX8_lighten_34 (by decide) ?_
    refine w_istore_3 dX8_lighten_35 rfl ?_
    refine w_iconst (v := nI 0) dX8_lighten_36 (by decide) ?_
    refine w_istore_4 dX8_lighten_37 rfl ?_
    exact ml_lt hV2 hm2 hR hB hn hQ (1 * 2 ^ T 12 0 + 1) 0 (by omega) (by omega) (.float 0) (.float 0)
  · try simp (disch := omega) only [nI_b2, Decidable.not_not, nI_ltI, nI_leI, nI_eq, ge_iff_le, gt_iff_lt, ne_eq, Nat.not_lt, Nat.not_le] at c_24
    exact absurd c_24 (by decide)
theorem m_lighten {E : EV} {V : Nat} {th hi ac tp ba en at_ fa dp io hm_ we sh so : Int32} {mm : Nat → Int32} {T : ST} {sd : Int32} {G : AH} {x : Int32} (hV : G.1 V = some (mO V th hi ac tp ba en at_ fa dp io hm_ we sh so)) (hm : G.1 (V + 1) = some (aI 750 mm)) (hR : MoR mm T sd) (hB : Bd T)  : Cu E 5 kX8_lighten [.ref V, .int x] G (.int (if xk1 (okN 0 (nI 9999) x) = 0 then (ltR T (ix x) (1 * 2 ^ T 12 0)).1 else nI 0)) (gs G V (mO V (nI (xk1 (okN 0 (nI 9999) x))) hi ac tp ba en at_ fa dp io hm_ we sh so)) := by
  refine Ct.intro rfl (by decide) [.ref V, .int x, .float 0, .float 0, .float 0, .float 0, .float 0] (by simp [Value.category]) (Nat.le_of_ble_eq_true rfl) rfl ?_
  obtain ⟨r0, r3, r4, r5, r6, r7, r9, r11, r12, r14, r20, r26, rL⟩ := id hR
  obtain ⟨b0, b1, b2_, b3, b4, b5, b6, b7, b8, b9, b10, b11, b12, b13, b14, b15, b16, b17, b18, b19⟩ := id hB
  refine w_aload_n dX8_lighten_0 rfl ?_
  refine w_iload_n dX8_lighten_1 rfl ?_
  refine w_iconst (v := nI 0) dX8_lighten_2 (by decide) ?_
  refine w_sipush (v := nI 9999) dX8_lighten_3 (by decide) ?_
  refine wS3u dX8_lighten_6 lk_X8_42 rfl (m_isIn) (Nat.le_of_ble_eq_true rfl) (Nat.le_of_ble_eq_true rfl) (Nat.le_of_ble_eq_true rfl) (Nat.le_of_ble_eq_true rfl) ?_
  refine w_ifN_ne (tgt := 16) dX8_lighten_9 (by decide) (fun c_9 => ?_) (fun c_9 => ?_)
  · try simp (disch := omega) only [nI_b2, Decidable.not_not, nI_ltI, nI_leI, nI_eq, ge_iff_le, gt_iff_lt, ne_eq, Nat.not_lt, Nat.not_le] at c_9
    refine w_iconst (v := nI 0) dX8_lighten_16 (by decide) ?_
    first
      | (have kx : xk1 (okN 0 (nI 9999) x) = 1 := (by rw [xk1, if_neg c_9]); exact mr_m_lighten hV (by decide) ⟨by rw [kx]; rfl, by rw [kx]⟩)
      | (have kx : xk1 (okN 0 (nI 9999) x) = 0 := (by rw [xk1, if_pos c_9]); obtain ⟨n, hn8, hn9, e⟩ := in_L (a := 0) (n := 9999) (by omega) (by omega) c_9; subst e; exact mk_m_lighten hn9 hV hm hR hB ⟨by rw [kx, if_pos rfl, ix_nI (by omega)], by rw [kx]⟩)
  · try simp (disch := omega) only [nI_b2, Decidable.not_not, nI_ltI, nI_leI, nI_eq, ge_iff_le, gt_iff_lt, ne_eq, Nat.not_lt, Nat.not_le] at c_9
    refine w_iconst (v := nI 1) dX8_lighten_12 (by decide) ?_
    refine w_goto (tgt := 17) dX8_lighten_13 (by decide) ?_
    first
      | (have kx : xk1 (okN 0 (nI 9999) x) = 1 := (by rw [xk1, if_neg c_9]); exact mr_m_lighten hV (by decide) ⟨by rw [kx]; rfl, by rw [kx]⟩)
      | (have kx : xk1 (okN 0 (nI 9999) x) = 0 := (by rw [xk1, if_pos c_9]); obtain ⟨n, hn8, hn9, e⟩ := in_L (a := 0) (n := 9999) (by omega) (by omega) c_9; subst e; exact mk_m_lighten hn9 hV hm hR hB ⟨by rw [kx, if_pos rfl, ix_nI (by omega)], by rw [kx]⟩)
