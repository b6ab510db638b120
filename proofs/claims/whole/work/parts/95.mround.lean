/-! the model: round -/
theorem smN_z {T2 T : ST} {i : Nat} (h : smN T2 T i = 0) : ∀ j, smN T2 T (i + j) = 0
  | 0 => h
  | j + 1 => by rw [← Nat.add_assoc, smN, if_neg (fun e => by have := smN_z h j; omega)]
theorem ml_there {E : EV} {Q : OC → AH → Prop} {V : Nat} {th hi ac tp ba en at_ fa dp io hm_ we sh so : Int32} {mm : Nat → Int32} {T : ST} {sd : Int32} {G : AH} {T0 : ST} {s0 : Int32} {aa m0 : Nat → Int32} (hV : G.1 V = some (mO V th hi ac tp ba en at_ fa dp io hm_ we sh so)) (hm : G.1 (V + 1) = some (aI 750 mm)) (hR : MoR mm T sd) (hB : Bd T) (h3 : G.1 (V + 3) = some (aI 350 aa)) (ha : ∀ j, j < 350 → aa j = m0 j) (hR0 : MoR m0 T0 s0) (hB0 : Bd T0) (hQ : Q (.inl (some (.int (nI (smN T T0 (T 12 0)))))) G) : ∀ (k i : Nat), T 12 0 - i < k → i ≤ T 12 0 → smN T T0 i = 1 → Wp E 2 0 0 kX8_areThere Q G (0, 0) 2 [.ref V, .int (nI i)] [] := by
  obtain ⟨r0, r3, r4, r5, r6, r7, r9, r11, r12, r14, r20, r26, rL⟩ := id hR
  obtain ⟨b0, b1, b2_, b3, b4, b5, b6, b7, b8, b9, b10, b11, b12, b13, b14, b15, b16, b17, b18, b19⟩ := id hB
  intro k
  induction k with
  | zero => intro i h; exact absurd h (by omega)
  | succ k ih =>
    intro i hk hi hs
    refine w_iload_n dX8_areThere_2 rfl ?_
    refine w_aload_n dX8_areThere_3 rfl ?_
    refine w_getf dX8_areThere_4 fl_X8_7 (by first | assumption | exact gs_at | (rw [gs_ne (by omega)]; (first | assumption | exact gs_at | (rw [gs_ne (by omega)]; (first | assumption | exact gs_at | (rw [gs_ne (by omega)]; (first | assumption | exact gs_at | (rw [gs_ne (by omega)]; (first | assumption | exact gs_at))))))))) rfl ?_
    refine w_iconst (v := nI 3) dX8_areThere_7 (by decide) ?_
    refine w_iaload dX8_areThere_8 (by first | assumption | exact gs_at | (rw [gs_ne (by omega)]; (first | assumption | exact gs_at | (rw [gs_ne (by omega)]; (first | assumption | exact gs_at | (rw [gs_ne (by omega)]; (first | assumption | exact gs_at | (rw [gs_ne (by omega)]; (first | assumption | exact gs_at))))))))) (by first | assumption | exact vp_in_nI (by omega) (by omega) | exact vp_in_nI (by assumption) (by omega)) ?_
    rw [nI_clamp (by omega)]
    rw [r3]
    refine w_icmp_ge (tgt := 43) dX8_areThere_9 (by decide) (fun c_9 => ?_) (fun c_9 => ?_)
    · try simp (disch := omega) only [nI_b2, Decidable.not_not, nI_ltI, nI_leI, nI_eq, ge_iff_le, gt_iff_lt, ne_eq, Nat.not_lt, Nat.not_le] at c_9
      have e : i = T 12 0 := by omega
      rw [← e, hs] at hQ
      refine w_iconst (v := nI 1) dX8_areThere_43 (by decide) ?_
      refine w_zret dX8_areThere_44 rfl rfl (Nat.le_of_ble_eq_true rfl) (Nat.le_of_ble_eq_true rfl) ?_
      exact hQ
    · try simp (disch := omega) only [nI_b2, Decidable.not_not, nI_ltI, nI_leI, nI_eq, ge_iff_le, gt_iff_lt, ne_eq, Nat.not_lt, Nat.not_le] at c_9
      have e31 : aa (26 + 7 * i + 1) = nI (T0 1 i) := (ha _ (by omega)).trans (hR0.2.2.2.2.2.2.2.2.2.2.2.1 i 1 (by omega) (by decide))
      have q1 := b2_ i; have q2 := hB0.2.2.1 i
      refine w_aload_n dX8_areThere_12 rfl ?_
      refine w_iload_n dX8_areThere_13 rfl ?_
      refine w_iconst (v := nI 1) dX8_areThere_14 (by decide) ?_
      refine wV2u dX8_areThere_15 lk_X8_46 rfl (by first | assumption | exact gs_at | (rw [gs_ne (by omega)]; (first | assumption | exact gs_at | (rw [gs_ne (by omega)]; (first | assumption | exact gs_at | (rw [gs_ne (by omega)]; (first | assumption | exact gs_at | (rw [gs_ne (by omega)]; (first | assumption | exact gs_at))))))))) rfl rfl (m_of (w := 1) hV hm hR hB (by omega) (by decide)) (Nat.le_of_ble_eq_true rfl) (Nat.le_of_ble_eq_true rfl) (Nat.le_of_ble_eq_true rfl) (Nat.le_of_ble_eq_true rfl) ?_
      refine w_aload_n dX8_areThere_18 rfl ?_
      refine w_getf dX8_areThere_19 fl_X8_16 (by first | assumption | exact gs_at | (rw [gs_ne (by omega)]; (first | assumption | exact gs_at | (rw [gs_ne (by omega)]; (first | assumption | exact gs_at | (rw [gs_ne (by omega)]; (first | assumption | exact gs_at | (rw [gs_ne (by omega)]; (first | assumption | exact gs_at))))))))) rfl ?_
      refine w_bipush (v := nI 26) dX8_areThere_22 (by decide) ?_
      refine w_bipush (v := nI 7) dX8_areThere_24 (by decide) ?_
      refine w_iload_n dX8_areThere_26 rfl ?_
      first | refine w_imulN dX8_areThere_27 ?_ | refine w_imul dX8_areThere_27 ?_
      first | refine w_iaddN dX8_areThere_28 ?_ | refine w_iadd dX8_areThere_28 ?_
      refine w_iconst (v := nI 1) dX8_areThere_29 (by decide) ?_
      first | refine w_iaddN dX8_areThere_30 ?_ | refine w_iadd dX8_areThere_30 ?_
      refine w_iaload dX8_areThere_31 (by first | assumption | exact gs_at | (rw [gs_ne (by omega)]; (first | assumption | exact gs_at | (rw [gs_ne (by omega)]; (first | assumption | exact gs_at | (rw [gs_ne (by omega)]; (first | assumption | exact gs_at | (rw [gs_ne (by omega)]; (first | assumption | exact gs_at))))))))) (by first | assumption | exact vp_in_nI (by omega) (by omega) | exact vp_in_nI (by assumption) (by omega)) ?_
      rw [nI_clamp (by omega)]
      rw [e31]
      refine w_icmp_eq (tgt := 37) dX8_areThere_32 (by decide) (fun c_32 => ?_) (fun c_32 => ?_)
      · try simp (disch := omega) only [nI_b2, Decidable.not_not, nI_ltI, nI_leI, nI_eq, ge_iff_le, gt_iff_lt, ne_eq, Nat.not_lt, Nat.not_le] at c_32
        first | refine w_iinc_1 dX8_areThere_37 (nI_inc _) rfl ?_ | refine w_iinc_1 dX8_areThere_37 rfl rfl ?_
        refine w_goto (tgt := 2) dX8_areThere_40 (by decide) ?_
        exact ih (i + 1) (by omega) (by omega) (by rw [smN, if_pos ⟨hs, c_32⟩])
      · try simp (disch := omega) only [nI_b2, Decidable.not_not, nI_ltI, nI_leI, nI_eq, ge_iff_le, gt_iff_lt, ne_eq, Nat.not_lt, Nat.not_le] at c_32
        have hz : smN T T0 (i + 1) = 0 := by rw [smN, if_neg (fun h => c_32 h.2)]
        have hz2 := smN_z hz (T 12 0 - (i + 1))
        rw [show i + 1 + (T 12 0 - (i + 1)) = T 12 0 by omega] at hz2
        rw [hz2] at hQ
        refine w_iconst (v := nI 0) dX8_areThere_35 (by decide) ?_
        refine w_zret dX8_areThere_36 rfl rfl (Nat.le_of_ble_eq_true rfl) (Nat.le_of_ble_eq_true rfl) ?_
        exact hQ
theorem m_areThere {E : EV} {V : Nat} {th hi ac tp ba en at_ fa dp io hm_ we sh so : Int32} {mm : Nat → Int32} {T : ST} {sd : Int32} {G : AH} {T0 : ST} {s0 : Int32} {aa m0 : Nat → Int32} (hV : G.1 V = some (mO V th hi ac tp ba en at_ fa dp io hm_ we sh so)) (hm : G.1 (V + 1) = some (aI 750 mm)) (hR : MoR mm T sd) (hB : Bd T) (h3 : G.1 (V + 3) = some (aI 350 aa)) (ha : ∀ j, j < 350 → aa j = m0 j) (hR0 : MoR m0 T0 s0) (hB0 : Bd T0) : Cu E 2 kX8_areThere [.ref V] G (.int (nI (smN T T0 (T 12 0)))) G := by
  obtain ⟨r0, r3, r4, r5, r6, r7, r9, r11, r12, r14, r20, r26, rL⟩ := id hR
  obtain ⟨b0, b1, b2_, b3, b4, b5, b6, b7, b8, b9, b10, b11, b12, b13, b14, b15, b16, b17, b18, b19⟩ := id hB
  refine Ct.intro rfl (by decide) [.ref V, .float 0] (by simp [Value.category]) (Nat.le_of_ble_eq_true rfl) rfl ?_
  refine w_iconst (v := nI 0) dX8_areThere_0 (by decide) ?_
  refine w_istore_1 dX8_areThere_1 rfl ?_
  exact ml_there hV hm hR hB h3 ha hR0 hB0 ⟨rfl, rfl⟩ (T 12 0 + 1) 0 (by omega) (by omega) rfl
