/-! the model: likeness, leavings led to a side, what parts evenly -/
theorem ml_like {E : EV} {Q : OC → AH → Prop} {V : Nat} {th hi ac tp ba en at_ fa dp io hm_ we sh so : Int32} {mm : Nat → Int32} {T : ST} {sd : Int32} {G : AH} {kk : Nat → Int32} {Ti : ST} {si : Int32} {im : Nat} (hV : G.1 V = some (mO V th hi ac tp ba en at_ fa dp io hm_ we sh so)) (hm : G.1 (V + 1) = some (aI 750 mm)) (hR : MoR mm T sd) (hB : Bd T) (hk : G.1 (V + 2) = some (aI 750 kk)) (hKi : MoR kk Ti si) (hBi : Bd Ti) (hQ : Q (.inl (some (.int (nI (likN T Ti (min (T 12 0) (Ti 12 0))))))) G) : ∀ (k i : Nat), (min (T 12 0) (Ti 12 0)) - i < k → i ≤ (min (T 12 0) (Ti 12 0)) → Wp E 2 0 0 kX8_like Q G (0, 0) 18 [.ref V, .int (nI (likN T Ti i)), .int (nI i)] [] := by
  obtain ⟨r0, r3, r4, r5, r6, r7, r9, r11, r12, r14, r20, r26, rL⟩ := id hR
  obtain ⟨b0, b1, b2_, b3, b4, b5, b6, b7, b8, b9, b10, b11, b12, b13, b14, b15, b16, b17, b18, b19⟩ := id hB
  have q0 := hBi.1; have q2 := hBi.2.2.1; have q3 := hBi.2.2.2.1
  obtain ⟨-, kr3, -, -, -, -, -, -, -, -, -, kr26, -⟩ := id hKi
  intro k
  induction k with
  | zero => intro i h; exact absurd h (by omega)
  | succ k ih =>
    intro i hk hi
    refine w_iload_n dX8_like_18 rfl ?_
    refine w_aload_n dX8_like_19 rfl ?_
    refine w_getf dX8_like_20 fl_X8_7 (by first | assumption | exact gs_at | (rw [gs_ne (by omega)]; (first | assumption | exact gs_at | (rw [gs_ne (by omega)]; (first | assumption | exact gs_at | (rw [gs_ne (by omega)]; (first | assumption | exact gs_at | (rw [gs_ne (by omega)]; (first | assumption | exact gs_at))))))))) rfl ?_
    refine w_iconst (v := nI 3) dX8_like_23 (by decide) ?_
    refine w_iaload dX8_like_24 (by first | assumption | exact gs_at | (rw [gs_ne (by omega)]; (first | assumption | exact gs_at | (rw [gs_ne (by omega)]; (first | assumption | exact gs_at | (rw [gs_ne (by omega)]; (first | assumption | exact gs_at | (rw [gs_ne (by omega)]; (first | assumption | exact gs_at))))))))) (by first | assumption | exact vp_in_nI (by omega) (by omega) | exact vp_in_nI (by assumption) (by omega)) ?_
    rw [nI_clamp (by omega)]
    first | rw [r3] | rw [r4] | rw [r5] | rw [r6] | rw [r0] | rw [r11] | rw [r12] | rw [r7 _ (by omega)] | rw [r9 _ (by omega)] | rw [r14 _ (by omega)] | rw [r20 _ (by omega)] | rw [r26 _ _ (by omega) (by omega)] | skip
    refine w_aload_n dX8_like_25 rfl ?_
    refine w_getf dX8_like_26 fl_X8_13 (by first | assumption | exact gs_at | (rw [gs_ne (by omega)]; (first | assumption | exact gs_at | (rw [gs_ne (by omega)]; (first | assumption | exact gs_at | (rw [gs_ne (by omega)]; (first | assumption | exact gs_at | (rw [gs_ne (by omega)]; (first | assumption | exact gs_at))))))))) rfl ?_
    refine w_iconst (v := nI 3) dX8_like_29 (by decide) ?_
    refine w_iaload dX8_like_30 (by first | assumption | exact gs_at | (rw [gs_ne (by omega)]; (first | assumption | exact gs_at | (rw [gs_ne (by omega)]; (first | assumption | exact gs_at | (rw [gs_ne (by omega)]; (first | assumption | exact gs_at | (rw [gs_ne (by omega)]; (first | assumption | exact gs_at))))))))) (by first | assumption | exact vp_in_nI (by omega) (by omega) | exact vp_in_nI (by assumption) (by omega)) ?_
    rw [nI_clamp (by omega)]
    rw [kr3]
    refine wS2u dX8_like_31 lk_X8_222 rfl (m_lesser (by omega) (by omega)) (Nat.le_of_ble_eq_true rfl) (Nat.le_of_ble_eq_true rfl) (Nat.le_of_ble_eq_true rfl) (Nat.le_of_ble_eq_true rfl) ?_
    refine w_icmp_ge (tgt := 97) dX8_like_34 (by decide) (fun c_34 => ?_) (fun c_34 => ?_)
    · try simp (disch := omega) only [nI_b2, Decidable.not_not, nI_ltI, nI_leI, nI_eq, ge_iff_le, gt_iff_lt, ne_eq, Nat.not_lt, Nat.not_le] at c_34
      refine w_iload_n dX8_like_97 rfl ?_
      refine w_iret dX8_like_98 rfl (Nat.le_of_ble_eq_true rfl) (Nat.le_of_ble_eq_true rfl) ?_
      have e : i = min (T 12 0) (Ti 12 0) := by omega
      subst e
      exact hQ
    · try simp (disch := omega) only [nI_b2, Decidable.not_not, nI_ltI, nI_leI, nI_eq, ge_iff_le, gt_iff_lt, ne_eq, Nat.not_lt, Nat.not_le] at c_34
      refine w_iload_n dX8_like_37 rfl ?_
      refine w_aload_n dX8_like_38 rfl ?_
      refine w_iload_n dX8_like_39 rfl ?_
      refine w_iconst (v := nI 1) dX8_like_40 (by decide) ?_
      refine wV2u dX8_like_41 lk_X8_46 rfl (by first | assumption | exact gs_at | (rw [gs_ne (by omega)]; (first | assumption | exact gs_at | (rw [gs_ne (by omega)]; (first | assumption | exact gs_at | (rw [gs_ne (by omega)]; (first | assumption | exact gs_at | (rw [gs_ne (by omega)]; (first | assumption | exact gs_at))))))))) rfl rfl (m_of (w := 1) hV hm hR hB (by omega) (by decide)) (Nat.le_of_ble_eq_true rfl) (Nat.le_of_ble_eq_true rfl) (Nat.le_of_ble_eq_true rfl) (Nat.le_of_ble_eq_true rfl) ?_
      refine w_aload_n dX8_like_44 rfl ?_
      refine w_getf dX8_like_45 fl_X8_13 (by first | assumption | exact gs_at | (rw [gs_ne (by omega)]; (first | assumption | exact gs_at | (rw [gs_ne (by omega)]; (first | assumption | exact gs_at | (rw [gs_ne (by omega)]; (first | assumption | exact gs_at | (rw [gs_ne (by omega)]; (first | assumption | exact gs_at))))))))) rfl ?_
      refine w_bipush (v := nI 26) dX8_like_48 (by decide) ?_
      refine w_bipush (v := nI 7) dX8_like_50 (by decide) ?_
      refine w_iload_n dX8_like_52 rfl ?_
      first | refine w_imulN dX8_like_53 ?_ | refine w_imul dX8_like_53 ?_
      first | refine w_iaddN dX8_like_54 ?_ | refine w_iadd dX8_like_54 ?_
      refine w_iconst (v := nI 1) dX8_like_55 (by decide) ?_
      first | refine w_iaddN dX8_like_56 ?_ | refine w_iadd dX8_like_56 ?_
      refine w_iaload dX8_like_57 (by first | assumption | exact gs_at | (rw [gs_ne (by omega)]; (first | assumption | exact gs_at | (rw [gs_ne (by omega)]; (first | assumption | exact gs_at | (rw [gs_ne (by omega)]; (first | assumption | exact gs_at | (rw [gs_ne (by omega)]; (first | assumption | exact gs_at))))))))) (by first | assumption | exact vp_in_nI (by omega) (by omega) | exact vp_in_nI (by assumption) (by omega)) ?_
      rw [nI_clamp (by omega)]
      rw [kr26 _ 1 (by omega) (by decide)]
      have := b2_ i; have := q2 i
      refine w_icmp_ne (tgt := 88) dX8_like_58 (by decide) (fun c_58 => ?_) (fun c_58 => ?_)
      · try simp (disch := omega) only [nI_b2, Decidable.not_not, nI_ltI, nI_leI, nI_eq, ge_iff_le, gt_iff_lt, ne_eq, Nat.not_lt, Nat.not_le] at c_58
        refine w_iconst (v := nI 0) dX8_like_88 (by decide) ?_
        first | refine w_iaddN dX8_like_89 ?_ | refine w_iadd dX8_like_89 ?_
        refine w_istore_1 dX8_like_90 rfl ?_
        first | refine w_iinc_2 dX8_like_91 (nI_inc _) rfl ?_ | refine w_iinc_2 dX8_like_91 rfl rfl ?_
        refine w_goto (tgt := 18) dX8_like_94 (by decide) ?_
        have hN := ih (i + 1) (by omega) (by omega)
        rw [likN] at hN
        first
          | (rw [if_pos ⟨c_58, c_81⟩] at hN; exact hN)
          | (rw [if_neg (fun h => c_58 h.1)] at hN; exact hN)
          | (rw [if_neg (fun h => c_81 h.2)] at hN; exact hN)
      · try simp (disch := omega) only [nI_b2, Decidable.not_not, nI_ltI, nI_leI, nI_eq, ge_iff_le, gt_iff_lt, ne_eq, Nat.not_lt, Nat.not_le] at c_58
        refine w_aload_n dX8_like_61 rfl ?_
        refine w_iload_n dX8_like_62 rfl ?_
        refine w_iconst (v := nI 2) dX8_like_63 (by decide) ?_
        refine wV2u dX8_like_64 lk_X8_46 rfl (by first | assumption | exact gs_at | (rw [gs_ne (by omega)]; (first | assumption | exact gs_at | (rw [gs_ne (by omega)]; (first | assumption | exact gs_at | (rw [gs_ne (by omega)]; (first | assumption | exact gs_at | (rw [gs_ne (by omega)]; (first | assumption | exact gs_at))))))))) rfl rfl (m_of (w := 2) hV hm hR hB (by omega) (by decide)) (Nat.le_of_ble_eq_true rfl) (Nat.le_of_ble_eq_true rfl) (Nat.le_of_ble_eq_true rfl) (Nat.le_of_ble_eq_true rfl) ?_
        refine w_aload_n dX8_like_67 rfl ?_
        refine w_getf dX8_like_68 fl_X8_13 (by first | assumption | exact gs_at | (rw [gs_ne (by omega)]; (first | assumption | exact gs_at | (rw [gs_ne (by omega)]; (first | assumption | exact gs_at | (rw [gs_ne (by omega)]; (first | assumption | exact gs_at | (rw [gs_ne (by omega)]; (first | assumption | exact gs_at))))))))) rfl ?_
        refine w_bipush (v := nI 26) dX8_like_71 (by decide) ?_
        refine w_bipush (v := nI 7) dX8_like_73 (by decide) ?_
        refine w_iload_n dX8_like_75 rfl ?_
        first | refine w_imulN dX8_like_76 ?_ | refine w_imul dX8_like_76 ?_
        first | refine w_iaddN dX8_like_77 ?_ | refine w_iadd dX8_like_77 ?_
        refine w_iconst (v := nI 2) dX8_like_78 (by decide) ?_
        first | refine w_iaddN dX8_like_79 ?_ | refine w_iadd dX8_like_79 ?_
        refine w_iaload dX8_like_80 (by first | assumption | exact gs_at | (rw [gs_ne (by omega)]; (first | assumption | exact gs_at | (rw [gs_ne (by omega)]; (first | assumption | exact gs_at | (rw [gs_ne (by omega)]; (first | assumption | exact gs_at | (rw [gs_ne (by omega)]; (first | assumption | exact gs_at))))))))) (by first | assumption | exact vp_in_nI (by omega) (by omega) | exact vp_in_nI (by assumption) (by omega)) ?_
        rw [nI_clamp (by omega)]
        rw [kr26 _ 2 (by omega) (by decide)]
        have := b3 i; have := q3 i
        refine w_icmp_ne (tgt := 88) dX8_like_81 (by decide) (fun c_81 => ?_) (fun c_81 => ?_)
        · try simp (disch := omega) only [nI_b2, Decidable.not_not, nI_ltI, nI_leI, nI_eq, ge_iff_le, gt_iff_lt, ne_eq, Nat.not_lt, Nat.not_le] at c_81
          refine w_iconst (v := nI 0) dX8_like_88 (by decide) ?_
          first | refine w_iaddN dX8_like_89 ?_ | refine w_iadd dX8_like_89 ?_
          refine w_istore_1 dX8_like_90 rfl ?_
          first | refine w_iinc_2 dX8_like_91 (nI_inc _) rfl ?_ | refine w_iinc_2 dX8_like_91 rfl rfl ?_
          refine w_goto (tgt := 18) dX8_like_94 (by decide) ?_
          have hN := ih (i + 1) (by omega) (by omega)
          rw [likN] at hN
          first
            | (rw [if_pos ⟨c_58, c_81⟩] at hN; exact hN)
            | (rw [if_neg (fun h => c_58 h.1)] at hN; exact hN)
            | (rw [if_neg (fun h => c_81 h.2)] at hN; exact hN)
        · try simp (disch := omega) only [nI_b2, Decidable.not_not, nI_ltI, nI_leI, nI_eq, ge_iff_le, gt_iff_lt, ne_eq, Nat.not_lt, Nat.not_le] at c_81
          refine w_iconst (v := nI 1) dX8_like_84 (by decide) ?_
          refine w_goto (tgt := 89) dX8_like_85 (by decide) ?_
          first | refine w_iaddN dX8_like_89 ?_ | refine w_iadd dX8_like_89 ?_
          refine w_istore_1 dX8_like_90 rfl ?_
          first | refine w_iinc_2 dX8_like_91 (nI_inc _) rfl ?_ | refine w_iinc_2 dX8_like_91 rfl rfl ?_
          refine w_goto (tgt := 18) dX8_like_94 (by decide) ?_
          have hN := ih (i + 1) (by omega) (by omega)
          rw [likN] at hN
          first
            | (rw [if_pos ⟨c_58, c_81⟩] at hN; exact hN)
            | (rw [if_neg (fun h => c_58 h.1)] at hN; exact hN)
            | (rw [if_neg (fun h => c_81 h.2)] at hN; exact hN)
theorem m_like {E : EV} {V : Nat} {th hi ac tp ba en at_ fa dp io hm_ we sh so : Int32} {mm : Nat → Int32} {T : ST} {sd : Int32} {G : AH} {kk : Nat → Int32} {Ti : ST} {si : Int32} {im : Nat} (hV : G.1 V = some (mO V th hi ac tp ba en at_ fa dp io hm_ we sh so)) (hm : G.1 (V + 1) = some (aI 750 mm)) (hR : MoR mm T sd) (hB : Bd T) (him : im ≤ 1) (hhi : hi = nI im) (hk : G.1 (V + 2) = some (aI 750 kk)) (hKi : im = 1 → MoR kk Ti si) (hBi : Bd Ti) : Cu E 2 kX8_like [.ref V] G (.int (likV im T Ti)) (gs G V (mO V (nI 0) hi ac tp ba en at_ fa dp io hm_ we sh so)) := by
  obtain ⟨r0, r3, r4, r5, r6, r7, r9, r11, r12, r14, r20, r26, rL⟩ := id hR
  obtain ⟨b0, b1, b2_, b3, b4, b5, b6, b7, b8, b9, b10, b11, b12, b13, b14, b15, b16, b17, b18, b19⟩ := id hB
  have hV2 : (gs G V (mO V (nI 0) hi ac tp ba en at_ fa dp io hm_ we sh so)).1 V = some (mO V (nI 0) hi ac tp ba en at_ fa dp io hm_ we sh so) := gs_at
  have hm2 : (gs G V (mO V (nI 0) hi ac tp ba en at_ fa dp io hm_ we sh so)).1 (V + 1) = some (aI 750 mm) := (gs_ne (by omega)).trans hm
  subst hhi
  refine Ct.intro rfl (by decide) [.ref V, .float 0, .float 0] (by simp [Value.category]) (Nat.le_of_ble_eq_true rfl) rfl ?_
  refine w_aload_n dX8_like_0 rfl ?_
  refine w_iconst (v := nI 0) dX8_like_1 (by decide) ?_
  refine w_putf dX8_like_2 fl_X8_39 (by first | assumption | exact gs_at | (rw [gs_ne (by omega)]; (first | assumption | exact gs_at | (rw [gs_ne (by omega)]; (first | assumption | exact gs_at | (rw [gs_ne (by omega)]; (first | assumption | exact gs_at | (rw [gs_ne (by omega)]; (first | assumption | exact gs_at))))))))) (by simp) rfl rfl ?_
  refine w_aload_n dX8_like_5 rfl ?_
  refine w_getf dX8_like_6 fl_X8_337 (by first | assumption | exact gs_at | (rw [gs_ne (by omega)]; (first | assumption | exact gs_at | (rw [gs_ne (by omega)]; (first | assumption | exact gs_at | (rw [gs_ne (by omega)]; (first | assumption | exact gs_at | (rw [gs_ne (by omega)]; (first | assumption | exact gs_at))))))))) rfl ?_
  refine w_ifN_ne (tgt := 14) dX8_like_9 (by decide) (fun c_9 => ?_) (fun c_9 => ?_)
  · try simp (disch := omega) only [nI_b2, Decidable.not_not, nI_ltI, nI_leI, nI_eq, ge_iff_le, gt_iff_lt, ne_eq, Nat.not_lt, Nat.not_le] at c_9
    refine w_iconst (v := nI 0) dX8_like_14 (by decide) ?_
    refine w_istore_1 dX8_like_15 rfl ?_
    refine w_iconst (v := nI 0) dX8_like_16 (by decide) ?_
    refine w_istore_2 dX8_like_17 rfl ?_
    have h1 : im = 1 := by omega
    exact ml_like (kk := kk) (im := im) hV2 hm2 hR hB ((gs_ne (by omega)).trans hk) (hKi h1) hBi ⟨by rw [likV, if_neg (by omega)], rfl⟩ (min (T 12 0) (Ti 12 0) + 1) 0 (by omega) (by omega)
  · try simp (disch := omega) only [nI_b2, Decidable.not_not, nI_ltI, nI_leI, nI_eq, ge_iff_le, gt_iff_lt, ne_eq, Nat.not_lt, Nat.not_le] at c_9
    refine w_iconst (v := (-1)) dX8_like_12 (by decide) ?_
    refine w_iret dX8_like_13 rfl (Nat.le_of_ble_eq_true rfl) (Nat.le_of_ble_eq_true rfl) ?_
    exact ⟨by rw [likV, if_pos (by omega)], rfl⟩
theorem ml_led {E : EV} {Q : OC → AH → Prop} {V : Nat} {th hi ac tp ba en at_ fa dp io hm_ we sh so : Int32} {mm : Nat → Int32} {T : ST} {sd : Int32} {G : AH} {s ow : Nat} (hV : G.1 V = some (mO V (nI 0) hi ac tp ba en at_ fa dp io hm_ we sh so)) (hm : G.1 (V + 1) = some (aI 750 mm)) (hR : MoR mm T sd) (hB : Bd T) (how : ow < 2 ^ 30) (hs : s < 2) (hQ : Q (.inl (some (.int (nI (if ow = 0 then ledN T s (T 12 6) else ledM T s (T 12 6)))))) G) : ∀ (k i : Nat), T 12 6 - i < k → i ≤ T 12 6 → Wp E 2 0 0 kX8_led Q G (0, 0) 23 [.ref V, .int (nI s), .int (nI ow), .int (nI (if ow = 0 then ledN T s i else ledM T s i)), .int (nI i)] [] := by
  obtain ⟨r0, r3, r4, r5, r6, r7, r9, r11, r12, r14, r20, r26, rL⟩ := id hR
  obtain ⟨b0, b1, b2_, b3, b4, b5, b6, b7, b8, b9, b10, b11, b12, b13, b14, b15, b16, b17, b18, b19⟩ := id hB
  intro k
  induction k with
  | zero => intro i h; exact absurd h (by omega)
  | succ k ih =>
    intro i hk hi4
    have hbl := b12 ((T 12 5 + 60 - i) % 60 * 4 + 1)
    have hN := ih (i + 1)
    rw [ledN, ledM] at hN
    refine w_iload dX8_led_23 rfl ?_
    refine w_aload_n dX8_led_25 rfl ?_
    refine w_getf dX8_led_26 fl_X8_7 (by first | assumption | exact gs_at | (rw [gs_ne (by omega)]; (first | assumption | exact gs_at | (rw [gs_ne (by omega)]; (first | assumption | exact gs_at | (rw [gs_ne (by omega)]; (first | assumption | exact gs_at | (rw [gs_ne (by omega)]; (first | assumption | exact gs_at))))))))) rfl ?_
    refine w_bipush (v := nI 11) dX8_led_29 (by decide) ?_
    refine w_iaload dX8_led_31 (by first | assumption | exact gs_at | (rw [gs_ne (by omega)]; (first | assumption | exact gs_at | (rw [gs_ne (by omega)]; (first | assumption | exact gs_at | (rw [gs_ne (by omega)]; (first | assumption | exact gs_at | (rw [gs_ne (by omega)]; (first | assumption | exact gs_at))))))))) (by first | assumption | exact vp_in_nI (by omega) (by omega) | exact vp_in_nI (by assumption) (by omega)) ?_
    rw [nI_clamp (by omega)]
    first | rw [r3] | rw [r4] | rw [r5] | rw [r6] | rw [r0] | rw [r11] | rw [r12] | rw [r7 _ (by omega)] | rw [r9 _ (by omega)] | rw [r14 _ (by omega)] | rw [r20 _ (by omega)] | rw [r26 _ _ (by omega) (by omega)] | skip
    refine w_icmp_ge (tgt := 81) dX8_led_32 (by decide) (fun c_32 => ?_) (fun c_32 => ?_)
    · try simp (disch := omega) only [nI_b2, Decidable.not_not, nI_ltI, nI_leI, nI_eq, ge_iff_le, gt_iff_lt, ne_eq, Nat.not_lt, Nat.not_le] at c_32
      refine w_iload_n dX8_led_81 rfl ?_
      refine w_iret dX8_led_82 rfl (Nat.le_of_ble_eq_true rfl) (Nat.le_of_ble_eq_true rfl) ?_
      have e : i = T 12 6 := by omega
      subst e
      exact hQ
    · try simp (disch := omega) only [nI_b2, Decidable.not_not, nI_ltI, nI_leI, nI_eq, ge_iff_le, gt_iff_lt, ne_eq, Nat.not_lt, Nat.not_le] at c_32
      refine w_aload_n dX8_led_35 rfl ?_
      refine w_getf dX8_led_36 fl_X8_39 (by first | assumption | exact gs_at | (rw [gs_ne (by omega)]; (first | assumption | exact gs_at | (rw [gs_ne (by omega)]; (first | assumption | exact gs_at | (rw [gs_ne (by omega)]; (first | assumption | exact gs_at | (rw [gs_ne (by omega)]; (first | assumption | exact gs_at))))))))) rfl ?_
      refine w_ifN_ne (tgt := 81) dX8_led_39 (by decide) (fun c_39 => ?_) (fun c_39 => ?_)
      · try simp (disch := omega) only [nI_b2, Decidable.not_not, nI_ltI, nI_leI, nI_eq, ge_iff_le, gt_iff_lt, ne_eq, Nat.not_lt, Nat.not_le] at c_39
        exact absurd c_39 (by decide)
      · try simp (disch := omega) only [nI_b2, Decidable.not_not, nI_ltI, nI_leI, nI_eq, ge_iff_le, gt_iff_lt, ne_eq, Nat.not_lt, Nat.not_le] at c_39
        refine w_iload_n dX8_led_42 rfl ?_
        refine w_aload_n dX8_led_43 rfl ?_
        refine w_iload dX8_led_44 rfl ?_
        refine w_iconst (v := nI 1) dX8_led_46 (by decide) ?_
        refine wV2u dX8_led_47 lk_X8_340 rfl (by first | assumption | exact gs_at | (rw [gs_ne (by omega)]; (first | assumption | exact gs_at | (rw [gs_ne (by omega)]; (first | assumption | exact gs_at | (rw [gs_ne (by omega)]; (first | assumption | exact gs_at | (rw [gs_ne (by omega)]; (first | assumption | exact gs_at))))))))) rfl rfl (m_logged (w := 1) hV hm hR hB (by omega) (by decide)) (Nat.le_of_ble_eq_true rfl) (Nat.le_of_ble_eq_true rfl) (Nat.le_of_ble_eq_true rfl) (Nat.le_of_ble_eq_true rfl) ?_
        refine w_iload_n dX8_led_50 rfl ?_
        have hlg : lgC T i 1 ≤ 9999 := hbl
        refine w_icmp_eq (tgt := 58) dX8_led_51 (by decide) (fun c_51 => ?_) (fun c_51 => ?_)
        · try simp (disch := omega) only [nI_b2, Decidable.not_not, nI_ltI, nI_leI, nI_eq, ge_iff_le, gt_iff_lt, ne_eq, Nat.not_lt, Nat.not_le] at c_51
          refine w_iload_n dX8_led_58 rfl ?_
          refine w_ifN_eq (tgt := 72) dX8_led_59 (by decide) (fun c_59 => ?_) (fun c_59 => ?_)
          · try simp (disch := omega) only [nI_b2, Decidable.not_not, nI_ltI, nI_leI, nI_eq, ge_iff_le, gt_iff_lt, ne_eq, Nat.not_lt, Nat.not_le] at c_59
            refine w_iconst (v := nI 1) dX8_led_72 (by decide) ?_
            first | refine w_iaddN dX8_led_73 ?_ | refine w_iadd dX8_led_73 ?_
            refine w_istore_3 dX8_led_74 rfl ?_
            first | refine w_iinc_4 dX8_led_75 (nI_inc _) rfl ?_ | refine w_iinc_4 dX8_led_75 rfl rfl ?_
            refine w_goto (tgt := 23) dX8_led_78 (by decide) ?_
            have hM := hN (by omega) (by omega)
            first
              | (rw [if_pos c_51, if_pos c_51] at hM; by_cases h0 : ow = 0; (rw [if_pos h0] at hM ⊢; first | exact hM | omega); (rw [if_neg h0] at hM ⊢; first | exact hM | omega))
              | (rw [if_neg c_51, if_neg c_51] at hM; exact hM)
          · try simp (disch := omega) only [nI_b2, Decidable.not_not, nI_ltI, nI_leI, nI_eq, ge_iff_le, gt_iff_lt, ne_eq, Nat.not_lt, Nat.not_le] at c_59
            refine w_aload_n dX8_led_62 rfl ?_
            refine w_iload dX8_led_63 rfl ?_
            refine w_iconst (v := nI 3) dX8_led_65 (by decide) ?_
            refine wV2u dX8_led_66 lk_X8_340 rfl (by first | assumption | exact gs_at | (rw [gs_ne (by omega)]; (first | assumption | exact gs_at | (rw [gs_ne (by omega)]; (first | assumption | exact gs_at | (rw [gs_ne (by omega)]; (first | assumption | exact gs_at | (rw [gs_ne (by omega)]; (first | assumption | exact gs_at))))))))) rfl rfl (m_logged (w := 3) hV hm hR hB (by omega) (by decide)) (Nat.le_of_ble_eq_true rfl) (Nat.le_of_ble_eq_true rfl) (Nat.le_of_ble_eq_true rfl) (Nat.le_of_ble_eq_true rfl) ?_
            refine w_goto (tgt := 73) dX8_led_69 (by decide) ?_
            first | refine w_iaddN dX8_led_73 ?_ | refine w_iadd dX8_led_73 ?_
            refine w_istore_3 dX8_led_74 rfl ?_
            first | refine w_iinc_4 dX8_led_75 (nI_inc _) rfl ?_ | refine w_iinc_4 dX8_led_75 rfl rfl ?_
            refine w_goto (tgt := 23) dX8_led_78 (by decide) ?_
            have hM := hN (by omega) (by omega)
            first
              | (rw [if_pos c_51, if_pos c_51] at hM; by_cases h0 : ow = 0; (rw [if_pos h0] at hM ⊢; first | exact hM | omega); (rw [if_neg h0] at hM ⊢; first | exact hM | omega))
              | (rw [if_neg c_51, if_neg c_51] at hM; exact hM)
        · try simp (disch := omega) only [nI_b2, Decidable.not_not, nI_ltI, nI_leI, nI_eq, ge_iff_le, gt_iff_lt, ne_eq, Nat.not_lt, Nat.not_le] at c_51
          refine w_iconst (v := nI 0) dX8_led_54 (by decide) ?_
          refine w_goto (tgt := 73) dX8_led_55 (by decide) ?_
          first | refine w_iaddN dX8_led_73 ?_ | refine w_iadd dX8_led_73 ?_
          refine w_istore_3 dX8_led_74 rfl ?_
          first | refine w_iinc_4 dX8_led_75 (nI_inc _) rfl ?_ | refine w_iinc_4 dX8_led_75 rfl rfl ?_
          refine w_goto (tgt := 23) dX8_led_78 (by decide) ?_
          have hM := hN (by omega) (by omega)
          first
            | (rw [if_pos c_51, if_pos c_51] at hM; by_cases h0 : ow = 0; (rw [if_pos h0] at hM ⊢; first | exact hM | omega); (rw [if_neg h0] at hM ⊢; first | exact hM | omega))
            | (rw [if_neg c_51, if_neg c_51] at hM; exact hM)
theorem ml_ledX {E : EV} {Q : OC → AH → Prop} {V : Nat} {th hi ac tp ba en at_ fa dp io hm_ we sh so : Int32} {mm : Nat → Int32} {T : ST} {sd : Int32} {G : AH} {x : Int32} {ow : Nat} (hV : G.1 V = some (mO V (nI 1) hi ac tp ba en at_ fa dp io hm_ we sh so)) (hm : G.1 (V + 1) = some (aI 750 mm)) (hR : MoR mm T sd) (hB : Bd T) (hQ : Q (.inl (some (.int (nI 0)))) G) : Wp E 2 0 0 kX8_led Q G (0, 0) 23 [.ref V, .int x, .int (nI ow), .int (nI 0), .int (nI 0)] [] := by
  obtain ⟨r0, r3, r4, r5, r6, r7, r9, r11, r12, r14, r20, r26, rL⟩ := id hR
  obtain ⟨b0, b1, b2_, b3, b4, b5, b6, b7, b8, b9, b10, b11, b12, b13, b14, b15, b16, b17, b18, b19⟩ := id hB
  refine w_iload dX8_led_23 rfl ?_
  refine w_aload_n dX8_led_25 rfl ?_
  refine w_getf dX8_led_26 fl_X8_7 (by first | assumption | exact gs_at | (rw [gs_ne (by omega)]; (first | assumption | exact gs_at | (rw [gs_ne (by omega)]; (first | assumption | exact gs_at | (rw [gs_ne (by omega)]; (first | assumption | exact gs_at | (rw [gs_ne (by omega)]; (first | assumption | exact gs_at))))))))) rfl ?_
  refine w_bipush (v := nI 11) dX8_led_29 (by decide) ?_
  refine w_iaload dX8_led_31 (by first | assumption | exact gs_at | (rw [gs_ne (by omega)]; (first | assumption | exact gs_at | (rw [gs_ne (by omega)]; (first | assumption | exact gs_at | (rw [gs_ne (by omega)]; (first | assumption | exact gs_at | (rw [gs_ne (by omega)]; (first | assumption | exact gs_at))))))))) (by first | assumption | exact vp_in_nI (by omega) (by omega) | exact vp_in_nI (by assumption) (by omega)) ?_
  rw [nI_clamp (by omega)]
  first | rw [r3] | rw [r4] | rw [r5] | rw [r6] | rw [r0] | rw [r11] | rw [r12] | rw [r7 _ (by omega)] | rw [r9 _ (by omega)] | rw [r14 _ (by omega)] | rw [r20 _ (by omega)] | rw [r26 _ _ (by omega) (by omega)] | skip
  refine w_icmp_ge (tgt := 81) dX8_led_32 (by decide) (fun c_32 => ?_) (fun c_32 => ?_)
  · try simp (disch := omega) only [nI_b2, Decidable.not_not, nI_ltI, nI_leI, nI_eq, ge_iff_le, gt_iff_lt, ne_eq, Nat.not_lt, Nat.not_le] at c_32
    refine w_iload_n dX8_led_81 rfl ?_
    refine w_iret dX8_led_82 rfl (Nat.le_of_ble_eq_true rfl) (Nat.le_of_ble_eq_true rfl) ?_
    exact hQ
  · try simp (disch := omega) only [nI_b2, Decidable.not_not, nI_ltI, nI_leI, nI_eq, ge_iff_le, gt_iff_lt, ne_eq, Nat.not_lt, Nat.not_le] at c_32
    refine w_aload_n dX8_led_35 rfl ?_
    refine w_getf dX8_led_36 fl_X8_39 (by first | assumption | exact gs_at | (rw [gs_ne (by omega)]; (first | assumption | exact gs_at | (rw [gs_ne (by omega)]; (first | assumption | exact gs_at | (rw [gs_ne (by omega)]; (first | assumption | exact gs_at | (rw [gs_ne (by omega)]; (first | assumption | exact gs_at))))))))) rfl ?_
    refine w_ifN_ne (tgt := 81) dX8_led_39 (by decide) (fun c_39 => ?_) (fun c_39 => ?_)
    · try simp (disch := omega) only [nI_b2, Decidable.not_not, nI_ltI, nI_leI, nI_eq, ge_iff_le, gt_iff_lt, ne_eq, Nat.not_lt, Nat.not_le] at c_39
      refine w_iload_n dX8_led_81 rfl ?_
      refine w_iret dX8_led_82 rfl (Nat.le_of_ble_eq_true rfl) (Nat.le_of_ble_eq_true rfl) ?_
      exact hQ
    · try simp (disch := omega) only [nI_b2, Decidable.not_not, nI_ltI, nI_leI, nI_eq, ge_iff_le, gt_iff_lt, ne_eq, Nat.not_lt, Nat.not_le] at c_39
      exact absurd c_39 (by decide)
theorem m_led {E : EV} {V : Nat} {th hi ac tp ba en at_ fa dp io hm_ we sh so : Int32} {mm : Nat → Int32} {T : ST} {sd : Int32} {G : AH} {x : Int32} {ow : Nat} (hV : G.1 V = some (mO V th hi ac tp ba en at_ fa dp io hm_ we sh so)) (hm : G.1 (V + 1) = some (aI 750 mm)) (hR : MoR mm T sd) (hB : Bd T) (how : ow < 2 ^ 30) : Cu E 2 kX8_led [.ref V, .int x, .int (nI ow)] G (.int (if xk1 (okI 2 x) = 0 then nI (if ow = 0 then ledN T (ix x) (T 12 6) else ledM T (ix x) (T 12 6)) else nI 0)) (gs G V (mO V (nI (xk1 (okI 2 x))) hi ac tp ba en at_ fa dp io hm_ we sh so)) := by
  refine Ct.intro rfl (by decide) [.ref V, .int x, .int (nI ow), .float 0, .float 0] (by simp [Value.category]) (Nat.le_of_ble_eq_true rfl) rfl ?_
  obtain ⟨r0, r3, r4, r5, r6, r7, r9, r11, r12, r14, r20, r26, rL⟩ := id hR
  obtain ⟨b0, b1, b2_, b3, b4, b5, b6, b7, b8, b9, b10, b11, b12, b13, b14, b15, b16, b17, b18, b19⟩ := id hB
  have hV2 : (gs G V (mO V (nI 0) hi ac tp ba en at_ fa dp io hm_ we sh so)).1 V = some (mO V (nI 0) hi ac tp ba en at_ fa dp io hm_ we sh so) := gs_at
  have hm2 : (gs G V (mO V (nI 0) hi ac tp ba en at_ fa dp io hm_ we sh so)).1 (V + 1) = some (aI 750 mm) := (gs_ne (by omega)).trans hm
  refine w_aload_n dX8_led_0 rfl ?_
  refine w_iload_n dX8_led_1 rfl ?_
  refine w_iconst (v := nI 0) dX8_led_2 (by decide) ?_
  refine w_iconst (v := nI 1) dX8_led_3 (by decide) ?_
  refine wS3u dX8_led_4 lk_X8_42 rfl (m_isIn) (Nat.le_of_ble_eq_true rfl) (Nat.le_of_ble_eq_true rfl) (Nat.le_of_ble_eq_true rfl) (Nat.le_of_ble_eq_true rfl) ?_
  refine w_ifN_ne (tgt := 14) dX8_led_7 (by decide) (fun c_7 => ?_) (fun c_7 => ?_)
  · try simp (disch := omega) only [nI_b2, Decidable.not_not, nI_ltI, nI_leI, nI_eq, ge_iff_le, gt_iff_lt, ne_eq, Nat.not_lt, Nat.not_le] at c_7
    refine w_iconst (v := nI 0) dX8_led_14 (by decide) ?_
    refine w_putf dX8_led_15 fl_X8_39 (by first | assumption | exact gs_at | (rw [gs_ne (by omega)]; (first | assumption | exact gs_at | (rw [gs_ne (by omega)]; (first | assumption | exact gs_at | (rw [gs_ne (by omega)]; (first | assumption | exact gs_at | (rw [gs_ne (by omega)]; (first | assumption | exact gs_at))))))))) (by simp) rfl rfl ?_
    refine w_iconst (v := nI 0) dX8_led_18 (by decide) ?_
    refine w_istore_3 dX8_led_19 rfl ?_
    refine w_iconst (v := nI 0) dX8_led_20 (by decide) ?_
    refine w_istore_4 dX8_led_21 rfl ?_
    have c7 := okI2.mp c_7
    obtain ⟨i, hi9, e⟩ := in_N (n := 2) (by omega) c7
    subst e
    have kx : xk1 (okI 2 (nI i)) = 0 := by rw [xk1, if_pos c7]
    have h := ml_led (E := E) (th := th) (Q := fun o G1 => o = .inl (some (.int (if xk1 (okI 2 (nI i)) = 0 then nI (if ow = 0 then ledN T (ix (nI i)) (T 12 6) else ledM T (ix (nI i)) (T 12 6)) else nI 0))) ∧ G1 = (gs G V (mO V (nI (xk1 (okI 2 (nI i)))) hi ac tp ba en at_ fa dp io hm_ we sh so))) hV2 hm2 hR hB how hi9 ⟨by rw [kx, if_pos rfl, ix_nI (by omega)], by rw [kx]⟩ (T 12 6 + 1) 0 (by omega) (by omega)
    rw [show (if ow = 0 then ledN T i 0 else ledM T i 0) = 0 from by split <;> rfl] at h
    exact h
  · try simp (disch := omega) only [nI_b2, Decidable.not_not, nI_ltI, nI_leI, nI_eq, ge_iff_le, gt_iff_lt, ne_eq, Nat.not_lt, Nat.not_le] at c_7
    refine w_iconst (v := nI 1) dX8_led_10 (by decide) ?_
    refine w_goto (tgt := 15) dX8_led_11 (by decide) ?_
    refine w_putf dX8_led_15 fl_X8_39 (by first | assumption | exact gs_at | (rw [gs_ne (by omega)]; (first | assumption | exact gs_at | (rw [gs_ne (by omega)]; (first | assumption | exact gs_at | (rw [gs_ne (by omega)]; (first | assumption | exact gs_at | (rw [gs_ne (by omega)]; (first | assumption | exact gs_at))))))))) (by simp) rfl rfl ?_
    refine w_iconst (v := nI 0) dX8_led_18 (by decide) ?_
    refine w_istore_3 dX8_led_19 rfl ?_
    refine w_iconst (v := nI 0) dX8_led_20 (by decide) ?_
    refine w_istore_4 dX8_led_21 rfl ?_
    have kx : xk1 (okI 2 x) = 1 := by rw [xk1, if_neg (fun h => c_7 (okI2.mpr h))]
    exact ml_ledX (th := th) gs_at ((gs_ne (by omega)).trans hm) hR hB ⟨by rw [kx]; rfl, by rw [kx]; rfl⟩
