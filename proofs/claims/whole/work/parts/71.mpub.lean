/-! the model: more calls that look -/
theorem val_eq (T : ST) (r : Nat) : vlN T (bitN (fun i => T 1 i = r) (T 12 0)) (T 12 0) = valIn T r := vl_set _ _ _ (Nat.le_refl _)
theorem mis_eq (T : ST) : vlN T (bitN (mis T) (T 12 0)) (T 12 0) = misV T := vl_set _ _ _ (Nat.le_refl _)
theorem ml_richest {E : EV} {Q : OC → AH → Prop} {V : Nat} {th hi ac tp ba en at_ fa dp io hm_ we sh so : Int32} {mm : Nat → Int32} {T : ST} {sd : Int32} {G : AH}  (hV : G.1 V = some (mO V th hi ac tp ba en at_ fa dp io hm_ we sh so)) (hm : G.1 (V + 1) = some (aI 750 mm)) (hR : MoR mm T sd) (hB : Bd T) (hQ : Q (.inl (some (.int (nI (ricN T 6))))) G) : ∀ (k i : Nat), 6 - i < k → i ≤ 6 → 1 ≤ i → Wp E 3 0 0 kX8_richest Q G (0, 0) 9 [.ref V, .int (nI (ricN T i)), .int (nI i)] [] := by
  obtain ⟨r0, r3, r4, r5, r6, r7, r9, r11, r12, r14, r20, r26, rL⟩ := id hR
  obtain ⟨b0, b1, b2_, b3, b4, b5, b6, b7, b8, b9, b10, b11, b12, b13, b14, b15, b16, b17, b18, b19⟩ := id hB
  intro k
  induction k with
  | zero => intro i h; exact absurd h (by omega)
  | succ k ih =>
    intro i hk hi
    intro hi1
    have hri : ricN T i ≤ i := by have := ricN_lt T (i - 1); rw [show i - 1 + 1 = i by omega] at this; omega
    have hv1 := valIn_le hB i; have hv2 := valIn_le hB (ricN T i)
    refine w_iload_n dX8_richest_9 rfl ?_
    refine w_bipush (v := nI 6) dX8_richest_10 (by decide) ?_
    refine w_icmp_ge (tgt := 46) dX8_richest_12 (by decide) (fun c_12 => ?_) (fun c_12 => ?_)
    · try simp (disch := omega) only [nI_b2, Decidable.not_not, nI_ltI, nI_leI, nI_eq, ge_iff_le, gt_iff_lt, ne_eq, Nat.not_lt, Nat.not_le] at c_12
      refine w_iload_n dX8_richest_46 rfl ?_
      refine w_iret dX8_richest_47 rfl (Nat.le_of_ble_eq_true rfl) (Nat.le_of_ble_eq_true rfl) ?_
      have e : i = 6 := by omega
      subst e
      exact hQ
    · try simp (disch := omega) only [nI_b2, Decidable.not_not, nI_ltI, nI_leI, nI_eq, ge_iff_le, gt_iff_lt, ne_eq, Nat.not_lt, Nat.not_le] at c_12
      refine w_aload_n dX8_richest_15 rfl ?_
      refine w_aload_n dX8_richest_16 rfl ?_
      refine w_iload_n dX8_richest_17 rfl ?_
      refine w_iconst (v := nI 1) dX8_richest_18 (by decide) ?_
      refine wV2u dX8_richest_19 lk_X8_283 rfl (by first | assumption | exact gs_at | (rw [gs_ne (by omega)]; (first | assumption | exact gs_at | (rw [gs_ne (by omega)]; (first | assumption | exact gs_at | (rw [gs_ne (by omega)]; (first | assumption | exact gs_at | (rw [gs_ne (by omega)]; (first | assumption | exact gs_at))))))))) rfl rfl (m_itemsOf (w := 1) (r := i) hV hm hR hB (by decide) (fun j => by have := b2_ j; omega) (by omega)) (Nat.le_of_ble_eq_true rfl) (Nat.le_of_ble_eq_true rfl) (Nat.le_of_ble_eq_true rfl) (Nat.le_of_ble_eq_true rfl) ?_
      have hb9 := bitN_12 (fun j => T 1 j = i) b0
      refine wV1u dX8_richest_22 lk_X8_256 rfl (by first | assumption | exact gs_at | (rw [gs_ne (by omega)]; (first | assumption | exact gs_at | (rw [gs_ne (by omega)]; (first | assumption | exact gs_at | (rw [gs_ne (by omega)]; (first | assumption | exact gs_at | (rw [gs_ne (by omega)]; (first | assumption | exact gs_at))))))))) rfl rfl (m_valueOf hV hm hR hB (by omega)) (Nat.le_of_ble_eq_true rfl) (Nat.le_of_ble_eq_true rfl) (Nat.le_of_ble_eq_true rfl) (Nat.le_of_ble_eq_true rfl) ?_
      rw [val_eq]
      refine w_aload_n dX8_richest_25 rfl ?_
      refine w_aload_n dX8_richest_26 rfl ?_
      refine w_iload_n dX8_richest_27 rfl ?_
      refine w_iconst (v := nI 1) dX8_richest_28 (by decide) ?_
      refine wV2u dX8_richest_29 lk_X8_283 rfl (by first | assumption | exact gs_at | (rw [gs_ne (by omega)]; (first | assumption | exact gs_at | (rw [gs_ne (by omega)]; (first | assumption | exact gs_at | (rw [gs_ne (by omega)]; (first | assumption | exact gs_at | (rw [gs_ne (by omega)]; (first | assumption | exact gs_at))))))))) rfl rfl (m_itemsOf (w := 1) (r := ricN T i) hV hm hR hB (by decide) (fun j => by have := b2_ j; omega) (by omega)) (Nat.le_of_ble_eq_true rfl) (Nat.le_of_ble_eq_true rfl) (Nat.le_of_ble_eq_true rfl) (Nat.le_of_ble_eq_true rfl) ?_
      have hb8 := bitN_12 (fun j => T 1 j = ricN T i) b0
      refine wV1u dX8_richest_32 lk_X8_256 rfl (by first | assumption | exact gs_at | (rw [gs_ne (by omega)]; (first | assumption | exact gs_at | (rw [gs_ne (by omega)]; (first | assumption | exact gs_at | (rw [gs_ne (by omega)]; (first | assumption | exact gs_at | (rw [gs_ne (by omega)]; (first | assumption | exact gs_at))))))))) rfl rfl (m_valueOf hV hm hR hB (by omega)) (Nat.le_of_ble_eq_true rfl) (Nat.le_of_ble_eq_true rfl) (Nat.le_of_ble_eq_true rfl) (Nat.le_of_ble_eq_true rfl) ?_
      rw [val_eq]
      refine w_icmp_le (tgt := 40) dX8_richest_35 (by decide) (fun c_35 => ?_) (fun c_35 => ?_)
      · try simp (disch := omega) only [nI_b2, Decidable.not_not, nI_ltI, nI_leI, nI_eq, ge_iff_le, gt_iff_lt, ne_eq, Nat.not_lt, Nat.not_le] at c_35
        first | refine w_iinc_2 dX8_richest_40 (nI_inc _) rfl ?_ | refine w_iinc_2 dX8_richest_40 rfl rfl ?_
        refine w_goto (tgt := 9) dX8_richest_43 (by decide) ?_
        have hN := ih (i + 1) (by omega) (by omega) (by omega)
        rw [ricN] at hN
        first
          | (rw [if_pos c_35] at hN; exact hN)
          | (rw [if_neg (Nat.not_lt.mpr c_35)] at hN; exact hN)
      · try simp (disch := omega) only [nI_b2, Decidable.not_not, nI_ltI, nI_leI, nI_eq, ge_iff_le, gt_iff_lt, ne_eq, Nat.not_lt, Nat.not_le] at c_35
        refine w_iload_n dX8_richest_38 rfl ?_
        refine w_istore_1 dX8_richest_39 rfl ?_
        first | refine w_iinc_2 dX8_richest_40 (nI_inc _) rfl ?_ | refine w_iinc_2 dX8_richest_40 rfl rfl ?_
        refine w_goto (tgt := 9) dX8_richest_43 (by decide) ?_
        have hN := ih (i + 1) (by omega) (by omega) (by omega)
        rw [ricN] at hN
        first
          | (rw [if_pos c_35] at hN; exact hN)
          | (rw [if_neg (Nat.not_lt.mpr c_35)] at hN; exact hN)
theorem m_richest {E : EV} {V : Nat} {th hi ac tp ba en at_ fa dp io hm_ we sh so : Int32} {mm : Nat → Int32} {T : ST} {sd : Int32} {G : AH}  (hV : G.1 V = some (mO V th hi ac tp ba en at_ fa dp io hm_ we sh so)) (hm : G.1 (V + 1) = some (aI 750 mm)) (hR : MoR mm T sd) (hB : Bd T)  : Cu E 3 kX8_richest [.ref V] G (.int (nI (ricN T 6))) (gs G V (mO V (nI 0) hi ac tp ba en at_ fa dp io hm_ we sh so)) := by
  obtain ⟨r0, r3, r4, r5, r6, r7, r9, r11, r12, r14, r20, r26, rL⟩ := id hR
  obtain ⟨b0, b1, b2_, b3, b4, b5, b6, b7, b8, b9, b10, b11, b12, b13, b14, b15, b16, b17, b18, b19⟩ := id hB
  have hV2 : (gs G V (mO V (nI 0) hi ac tp ba en at_ fa dp io hm_ we sh so)).1 V = some (mO V (nI 0) hi ac tp ba en at_ fa dp io hm_ we sh so) := gs_at
  have hm2 : (gs G V (mO V (nI 0) hi ac tp ba en at_ fa dp io hm_ we sh so)).1 (V + 1) = some (aI 750 mm) := (gs_ne (by omega)).trans hm
  refine Ct.intro rfl (by decide) [.ref V, .float 0, .float 0] (by simp [Value.category]) (Nat.le_of_ble_eq_true rfl) rfl ?_
  refine w_aload_n dX8_richest_0 rfl ?_
  refine w_iconst (v := nI 0) dX8_richest_1 (by decide) ?_
  refine w_putf dX8_richest_2 fl_X8_39 (by first | assumption | exact gs_at | (rw [gs_ne (by omega)]; (first | assumption | exact gs_at | (rw [gs_ne (by omega)]; (first | assumption | exact gs_at | (rw [gs_ne (by omega)]; (first | assumption | exact gs_at | (rw [gs_ne (by omega)]; (first | assumption | exact gs_at))))))))) (by simp) rfl rfl ?_
  refine w_iconst (v := nI 0) dX8_richest_5 (by decide) ?_
  refine w_istore_1 dX8_richest_6 rfl ?_
  refine w_iconst (v := nI 1) dX8_richest_7 (by decide) ?_
  refine w_istore_2 dX8_richest_8 rfl ?_
  have h := ml_richest (E := E) (Q := fun o G1 => o = .inl (some (.int (nI (ricN T 6)))) ∧ G1 = (gs G V (mO V (nI 0) hi ac tp ba en at_ fa dp io hm_ we sh so))) hV2 hm2 hR hB ⟨rfl, rfl⟩ 6 1 (by omega) (by omega) (by omega)
  rw [show ricN T 1 = 0 from Nat.le_zero.mp (ricN_lt T 0)] at h
  exact h
theorem m_pays {E : EV} {V : Nat} {th hi ac tp ba en at_ fa dp io hm_ we sh so : Int32} {mm : Nat → Int32} {T : ST} {sd : Int32} {G : AH} {o t : Nat} (hV : G.1 V = some (mO V th hi ac tp ba en at_ fa dp io hm_ we sh so)) (hm : G.1 (V + 1) = some (aI 750 mm)) (hR : MoR mm T sd) (hB : Bd T) (ho : o < 2 ^ 30) (ht : t < 2 ^ 30) : Cu E 5 kX8_pays [.ref V, .int (nI o), .int (nI t)] G (.int (nI (rcN o t (wkAll T) (misV T)))) G := by
  obtain ⟨r0, r3, r4, r5, r6, r7, r9, r11, r12, r14, r20, r26, rL⟩ := id hR
  obtain ⟨b0, b1, b2_, b3, b4, b5, b6, b7, b8, b9, b10, b11, b12, b13, b14, b15, b16, b17, b18, b19⟩ := id hB
  have hw1 := wkAll_le hB
  have hb9 := bitN_12 (mis T) b0
  refine Ct.intro rfl (by decide) [.ref V, .int (nI o), .int (nI t)] (by simp [Value.category]) (Nat.le_of_ble_eq_true rfl) rfl ?_
  refine w_iload_n dX8_pays_0 rfl ?_
  refine w_ifN_ne (tgt := 24) dX8_pays_1 (by decide) (fun c_1 => ?_) (fun c_1 => ?_)
  · try simp (disch := omega) only [nI_b2, Decidable.not_not, nI_ltI, nI_leI, nI_eq, ge_iff_le, gt_iff_lt, ne_eq, Nat.not_lt, Nat.not_le] at c_1
    refine w_iload_n dX8_pays_24 rfl ?_
    refine w_ifN_ne (tgt := 32) dX8_pays_25 (by decide) (fun c_25 => ?_) (fun c_25 => ?_)
    · try simp (disch := omega) only [nI_b2, Decidable.not_not, nI_ltI, nI_leI, nI_eq, ge_iff_le, gt_iff_lt, ne_eq, Nat.not_lt, Nat.not_le] at c_25
      refine w_aload_n dX8_pays_32 rfl ?_
      refine w_aload_n dX8_pays_33 rfl ?_
      refine wV0u dX8_pays_34 lk_X8_253 rfl (by first | assumption | exact gs_at | (rw [gs_ne (by omega)]; (first | assumption | exact gs_at | (rw [gs_ne (by omega)]; (first | assumption | exact gs_at | (rw [gs_ne (by omega)]; (first | assumption | exact gs_at | (rw [gs_ne (by omega)]; (first | assumption | exact gs_at))))))))) rfl rfl (m_missingOnes hV hm hR hB) (Nat.le_of_ble_eq_true rfl) (Nat.le_of_ble_eq_true rfl) (Nat.le_of_ble_eq_true rfl) (Nat.le_of_ble_eq_true rfl) ?_
      refine wV1u dX8_pays_37 lk_X8_256 rfl (by first | assumption | exact gs_at | (rw [gs_ne (by omega)]; (first | assumption | exact gs_at | (rw [gs_ne (by omega)]; (first | assumption | exact gs_at | (rw [gs_ne (by omega)]; (first | assumption | exact gs_at | (rw [gs_ne (by omega)]; (first | assumption | exact gs_at))))))))) rfl rfl (m_valueOf hV hm hR hB (by omega)) (Nat.le_of_ble_eq_true rfl) (Nat.le_of_ble_eq_true rfl) (Nat.le_of_ble_eq_true rfl) (Nat.le_of_ble_eq_true rfl) ?_
      rw [mis_eq]
      refine w_iret dX8_pays_40 rfl (Nat.le_of_ble_eq_true rfl) (Nat.le_of_ble_eq_true rfl) ?_
      refine ⟨?_, rfl⟩
      first
        | (rw [rcN, if_pos (by omega), if_pos (by omega)]; done)
        | (rw [rcN, if_pos (by omega), if_neg (by omega)]; done)
        | (rw [rcN, if_neg (by omega), if_pos (by omega)]; done)
        | (rw [rcN, if_neg (by omega), if_neg (by omega)]; done)
    · try simp (disch := omega) only [nI_b2, Decidable.not_not, nI_ltI, nI_leI, nI_eq, ge_iff_le, gt_iff_lt, ne_eq, Nat.not_lt, Nat.not_le] at c_25
      refine w_iconst (v := nI 0) dX8_pays_28 (by decide) ?_
      refine w_goto (tgt := 40) dX8_pays_29 (by decide) ?_
      refine w_iret dX8_pays_40 rfl (Nat.le_of_ble_eq_true rfl) (Nat.le_of_ble_eq_true rfl) ?_
      refine ⟨?_, rfl⟩
      first
        | (rw [rcN, if_pos (by omega), if_pos (by omega)]; done)
        | (rw [rcN, if_pos (by omega), if_neg (by omega)]; done)
        | (rw [rcN, if_neg (by omega), if_pos (by omega)]; done)
        | (rw [rcN, if_neg (by omega), if_neg (by omega)]; done)
  · try simp (disch := omega) only [nI_b2, Decidable.not_not, nI_ltI, nI_leI, nI_eq, ge_iff_le, gt_iff_lt, ne_eq, Nat.not_lt, Nat.not_le] at c_1
    refine w_iload_n dX8_pays_4 rfl ?_
    refine w_ifN_ne (tgt := 19) dX8_pays_5 (by decide) (fun c_5 => ?_) (fun c_5 => ?_)
    · try simp (disch := omega) only [nI_b2, Decidable.not_not, nI_ltI, nI_leI, nI_eq, ge_iff_le, gt_iff_lt, ne_eq, Nat.not_lt, Nat.not_le] at c_5
      refine w_aload_n dX8_pays_19 rfl ?_
      refine wV0u dX8_pays_20 lk_X8_286 rfl (by first | assumption | exact gs_at | (rw [gs_ne (by omega)]; (first | assumption | exact gs_at | (rw [gs_ne (by omega)]; (first | assumption | exact gs_at | (rw [gs_ne (by omega)]; (first | assumption | exact gs_at | (rw [gs_ne (by omega)]; (first | assumption | exact gs_at))))))))) rfl rfl (m_workOfAll hV hm hR hB) (Nat.le_of_ble_eq_true rfl) (Nat.le_of_ble_eq_true rfl) (Nat.le_of_ble_eq_true rfl) (Nat.le_of_ble_eq_true rfl) ?_
      refine w_iret dX8_pays_23 rfl (Nat.le_of_ble_eq_true rfl) (Nat.le_of_ble_eq_true rfl) ?_
      refine ⟨?_, rfl⟩
      first
        | (rw [rcN, if_pos (by omega), if_pos (by omega)]; done)
        | (rw [rcN, if_pos (by omega), if_neg (by omega)]; done)
        | (rw [rcN, if_neg (by omega), if_pos (by omega)]; done)
        | (rw [rcN, if_neg (by omega), if_neg (by omega)]; done)
    · try simp (disch := omega) only [nI_b2, Decidable.not_not, nI_ltI, nI_leI, nI_eq, ge_iff_le, gt_iff_lt, ne_eq, Nat.not_lt, Nat.not_le] at c_5
      refine w_aload_n dX8_pays_8 rfl ?_
      refine wV0u dX8_pays_9 lk_X8_286 rfl (by first | assumption | exact gs_at | (rw [gs_ne (by omega)]; (first | assumption | exact gs_at | (rw [gs_ne (by omega)]; (first | assumption | exact gs_at | (rw [gs_ne (by omega)]; (first | assumption | exact gs_at | (rw [gs_ne (by omega)]; (first | assumption | exact gs_at))))))))) rfl rfl (m_workOfAll hV hm hR hB) (Nat.le_of_ble_eq_true rfl) (Nat.le_of_ble_eq_true rfl) (Nat.le_of_ble_eq_true rfl) (Nat.le_of_ble_eq_true rfl) ?_
      refine w_iconst (v := nI 2) dX8_pays_12 (by decide) ?_
      refine wS2u dX8_pays_13 lk_X8_231 rfl (m_rounded (by omega) (by decide) (by decide)) (Nat.le_of_ble_eq_true rfl) (Nat.le_of_ble_eq_true rfl) (Nat.le_of_ble_eq_true rfl) (Nat.le_of_ble_eq_true rfl) ?_
      refine w_goto (tgt := 23) dX8_pays_16 (by decide) ?_
      refine w_iret dX8_pays_23 rfl (Nat.le_of_ble_eq_true rfl) (Nat.le_of_ble_eq_true rfl) ?_
      refine ⟨?_, rfl⟩
      first
        | (rw [rcN, if_pos (by omega), if_pos (by omega)]; done)
        | (rw [rcN, if_pos (by omega), if_neg (by omega)]; done)
        | (rw [rcN, if_neg (by omega), if_pos (by omega)]; done)
        | (rw [rcN, if_neg (by omega), if_neg (by omega)]; done)
theorem ml_mrests {E : EV} {Q : OC → AH → Prop} {V : Nat} {th hi ac tp ba en at_ fa dp io hm_ we sh so : Int32} {mm : Nat → Int32} {T : ST} {sd : Int32} {G : AH}  (hV : G.1 V = some (mO V th hi ac tp ba en at_ fa dp io hm_ we sh so)) (hm : G.1 (V + 1) = some (aI 750 mm)) (hR : MoR mm T sd) (hB : Bd T) (hQ : Q (.inl (some (.int (nI (bitN (rsP T) 4))))) G) : ∀ (k i : Nat), 4 - i < k → i ≤ 4 → ∀ x y : Value, Wp E 6 0 0 kX8_rests Q G (0, 0) 9 [.ref V, .int (nI (bitN (rsP T) i)), .int (nI i), x, y] [] := by
  obtain ⟨r0, r3, r4, r5, r6, r7, r9, r11, r12, r14, r20, r26, rL⟩ := id hR
  obtain ⟨b0, b1, b2_, b3, b4, b5, b6, b7, b8, b9, b10, b11, b12, b13, b14, b15, b16, b17, b18, b19⟩ := id hB
  intro k
  induction k with
  | zero => intro i h; exact absurd h (by omega)
  | succ k ih =>
    intro i hk hi
    intro x y
    have hw1 := wkAll_le hB; have hw2 := misV_le hB
    refine w_iload_n dX8_rests_9 rfl ?_
    refine w_iconst (v := nI 4) dX8_rests_10 (by decide) ?_
    refine w_icmp_ge (tgt := 73) dX8_rests_11 (by decide) (fun c_11 => ?_) (fun c_11 => ?_)
    · try simp (disch := omega) only [nI_b2, Decidable.not_not, nI_ltI, nI_leI, nI_eq, ge_iff_le, gt_iff_lt, ne_eq, Nat.not_lt, Nat.not_le] at c_11
      refine w_iload_n dX8_rests_73 rfl ?_
      refine w_iret dX8_rests_74 rfl (Nat.le_of_ble_eq_true rfl) (Nat.le_of_ble_eq_true rfl) ?_
      have e : i = 4 := by omega
      subst e
      exact hQ
    · try simp (disch := omega) only [nI_b2, Decidable.not_not, nI_ltI, nI_leI, nI_eq, ge_iff_le, gt_iff_lt, ne_eq, Nat.not_lt, Nat.not_le] at c_11
      have hi2 : i / 2 ≤ 1 := by omega
      have g1 : rcN (i / 2) (i % 2) (wkAll T) (misV T) < 2000 := rcN_lt (by omega) (by omega)
      have g2 : rcN (1 - i / 2) (i % 2) (wkAll T) (misV T) < 2000 := rcN_lt (by omega) (by omega)
      have g3 : rcN (i % 2) (i / 2) (wkAll T) (misV T) < 2000 := rcN_lt (by omega) (by omega)
      have g4 : rcN (1 - i % 2) (i / 2) (wkAll T) (misV T) < 2000 := rcN_lt (by omega) (by omega)
      refine w_iload_n dX8_rests_14 rfl ?_
      refine w_iconst (v := nI 2) dX8_rests_15 (by decide) ?_
      first | refine w_idivN (by omega) (by omega) (by omega) dX8_rests_16 ?_ | refine w_idiv dX8_rests_16 (by decide) ?_
      refine w_istore_3 dX8_rests_17 rfl ?_
      refine w_iload_n dX8_rests_18 rfl ?_
      refine w_iconst (v := nI 2) dX8_rests_19 (by decide) ?_
      first | refine w_iremN (by omega) (by omega) (by omega) dX8_rests_20 ?_ | refine w_irem dX8_rests_20 (by decide) ?_
      refine w_istore_4 dX8_rests_21 rfl ?_
      refine w_aload_n dX8_rests_23 rfl ?_
      refine w_iconst (v := nI 1) dX8_rests_24 (by decide) ?_
      refine w_iload_n dX8_rests_25 rfl ?_
      refine w_isubN (by omega) dX8_rests_26 ?_
      refine w_iload dX8_rests_27 rfl ?_
      refine wV2u dX8_rests_29 lk_X8_322 rfl (by first | assumption | exact gs_at | (rw [gs_ne (by omega)]; (first | assumption | exact gs_at | (rw [gs_ne (by omega)]; (first | assumption | exact gs_at | (rw [gs_ne (by omega)]; (first | assumption | exact gs_at | (rw [gs_ne (by omega)]; (first | assumption | exact gs_at))))))))) rfl rfl (m_pays hV hm hR hB (by omega) (by omega)) (Nat.le_of_ble_eq_true rfl) (Nat.le_of_ble_eq_true rfl) (Nat.le_of_ble_eq_true rfl) (Nat.le_of_ble_eq_true rfl) ?_
      refine w_aload_n dX8_rests_32 rfl ?_
      refine w_iload_n dX8_rests_33 rfl ?_
      refine w_iload dX8_rests_34 rfl ?_
      refine wV2u dX8_rests_36 lk_X8_322 rfl (by first | assumption | exact gs_at | (rw [gs_ne (by omega)]; (first | assumption | exact gs_at | (rw [gs_ne (by omega)]; (first | assumption | exact gs_at | (rw [gs_ne (by omega)]; (first | assumption | exact gs_at | (rw [gs_ne (by omega)]; (first | assumption | exact gs_at))))))))) rfl rfl (m_pays hV hm hR hB (by omega) (by omega)) (Nat.le_of_ble_eq_true rfl) (Nat.le_of_ble_eq_true rfl) (Nat.le_of_ble_eq_true rfl) (Nat.le_of_ble_eq_true rfl) ?_
      refine w_icmp_lt (tgt := 67) dX8_rests_39 (by decide) (fun c_39 => ?_) (fun c_39 => ?_)
      · try simp (disch := omega) only [nI_b2, Decidable.not_not, nI_ltI, nI_leI, nI_eq, ge_iff_le, gt_iff_lt, ne_eq, Nat.not_lt, Nat.not_le] at c_39
        first | refine w_iinc_2 dX8_rests_67 (nI_inc _) rfl ?_ | refine w_iinc_2 dX8_rests_67 rfl rfl ?_
        refine w_goto (tgt := 9) dX8_rests_70 (by decide) ?_
        have hN := ih (i + 1) (by omega) (by omega) (.int (nI (i / 2))) (.int (nI (i % 2)))
        first
          | (rw [bitN_t (show rsP T i from ⟨by rw [Nat.pow_one]; exact c_39, by rw [Nat.pow_one]; exact c_58⟩)] at hN; exact hN)
          | (rw [bitN_f (show ¬ rsP T i from fun h => by have h1 := h.1; rw [Nat.pow_one] at h1; omega)] at hN; exact hN)
          | (rw [bitN_f (show ¬ rsP T i from fun h => by have h1 := h.2; rw [Nat.pow_one] at h1; omega)] at hN; exact hN)
      · try simp (disch := omega) only [nI_b2, Decidable.not_not, nI_ltI, nI_leI, nI_eq, ge_iff_le, gt_iff_lt, ne_eq, Nat.not_lt, Nat.not_le] at c_39
        refine w_aload_n dX8_rests_42 rfl ?_
        refine w_iconst (v := nI 1) dX8_rests_43 (by decide) ?_
        refine w_iload dX8_rests_44 rfl ?_
        refine w_isubN (by omega) dX8_rests_46 ?_
        refine w_iload_n dX8_rests_47 rfl ?_
        refine wV2u dX8_rests_48 lk_X8_322 rfl (by first | assumption | exact gs_at | (rw [gs_ne (by omega)]; (first | assumption | exact gs_at | (rw [gs_ne (by omega)]; (first | assumption | exact gs_at | (rw [gs_ne (by omega)]; (first | assumption | exact gs_at | (rw [gs_ne (by omega)]; (first | assumption | exact gs_at))))))))) rfl rfl (m_pays hV hm hR hB (by omega) (by omega)) (Nat.le_of_ble_eq_true rfl) (Nat.le_of_ble_eq_true rfl) (Nat.le_of_ble_eq_true rfl) (Nat.le_of_ble_eq_true rfl) ?_
        refine w_aload_n dX8_rests_51 rfl ?_
        refine w_iload dX8_rests_52 rfl ?_
        refine w_iload_n dX8_rests_54 rfl ?_
        refine wV2u dX8_rests_55 lk_X8_322 rfl (by first | assumption | exact gs_at | (rw [gs_ne (by omega)]; (first | assumption | exact gs_at | (rw [gs_ne (by omega)]; (first | assumption | exact gs_at | (rw [gs_ne (by omega)]; (first | assumption | exact gs_at | (rw [gs_ne (by omega)]; (first | assumption | exact gs_at))))))))) rfl rfl (m_pays hV hm hR hB (by omega) (by omega)) (Nat.le_of_ble_eq_true rfl) (Nat.le_of_ble_eq_true rfl) (Nat.le_of_ble_eq_true rfl) (Nat.le_of_ble_eq_true rfl) ?_
        refine w_icmp_lt (tgt := 67) dX8_rests_58 (by decide) (fun c_58 => ?_) (fun c_58 => ?_)
        · try simp (disch := omega) only [nI_b2, Decidable.not_not, nI_ltI, nI_leI, nI_eq, ge_iff_le, gt_iff_lt, ne_eq, Nat.not_lt, Nat.not_le] at c_58
          first | refine w_iinc_2 dX8_rests_67 (nI_inc _) rfl ?_ | refine w_iinc_2 dX8_rests_67 rfl rfl ?_
          refine w_goto (tgt := 9) dX8_rests_70 (by decide) ?_
          have hN := ih (i + 1) (by omega) (by omega) (.int (nI (i / 2))) (.int (nI (i % 2)))
          first
            | (rw [bitN_t (show rsP T i from ⟨by rw [Nat.pow_one]; exact c_39, by rw [Nat.pow_one]; exact c_58⟩)] at hN; exact hN)
            | (rw [bitN_f (show ¬ rsP T i from fun h => by have h1 := h.1; rw [Nat.pow_one] at h1; omega)] at hN; exact hN)
            | (rw [bitN_f (show ¬ rsP T i from fun h => by have h1 := h.2; rw [Nat.pow_one] at h1; omega)] at hN; exact hN)
        · try simp (disch := omega) only [nI_b2, Decidable.not_not, nI_ltI, nI_leI, nI_eq, ge_iff_le, gt_iff_lt, ne_eq, Nat.not_lt, Nat.not_le] at c_58
          refine w_iload_n dX8_rests_61 rfl ?_
          refine w_iconst (v := nI 1) dX8_rests_62 (by decide) ?_
          refine w_iload_n dX8_rests_63 rfl ?_
          refine w_ishlN (by omega) (p2_lt (by omega)) dX8_rests_64 ?_
          first | refine w_iorN dX8_rests_65 ?_ | refine w_ior dX8_rests_65 ?_
          refine w_istore_1 dX8_rests_66 rfl ?_
          first | refine w_iinc_2 dX8_rests_67 (nI_inc _) rfl ?_ | refine w_iinc_2 dX8_rests_67 rfl rfl ?_
          refine w_goto (tgt := 9) dX8_rests_70 (by decide) ?_
          have hN := ih (i + 1) (by omega) (by omega) (.int (nI (i / 2))) (.int (nI (i % 2)))
          first
            | (rw [bitN_t (show rsP T i from ⟨by rw [Nat.pow_one]; exact c_39, by rw [Nat.pow_one]; exact c_58⟩)] at hN; exact hN)
            | (rw [bitN_f (show ¬ rsP T i from fun h => by have h1 := h.1; rw [Nat.pow_one] at h1; omega)] at hN; exact hN)
            | (rw [bitN_f (show ¬ rsP T i from fun h => by have h1 := h.2; rw [Nat.pow_one] at h1; omega)] at hN; exact hN)
theorem m_rests {E : EV} {V : Nat} {th hi ac tp ba en at_ fa dp io hm_ we sh so : Int32} {mm : Nat → Int32} {T : ST} {sd : Int32} {G : AH}  (hV : G.1 V = some (mO V th hi ac tp ba en at_ fa dp io hm_ we sh so)) (hm : G.1 (V + 1) = some (aI 750 mm)) (hR : MoR mm T sd) (hB : Bd T)  : Cu E 6 kX8_rests [.ref V] G (.int (nI (bitN (rsP T) 4))) (gs G V (mO V (nI 0) hi ac tp ba en at_ fa dp io hm_ we sh so)) := by
  obtain ⟨r0, r3, r4, r5, r6, r7, r9, r11, r12, r14, r20, r26, rL⟩ := id hR
  obtain ⟨b0, b1, b2_, b3, b4, b5, b6, b7, b8, b9, b10, b11, b12, b13, b14, b15, b16, b17, b18, b19⟩ := id hB
  have hV2 : (gs G V (mO V (nI 0) hi ac tp ba en at_ fa dp io hm_ we sh so)).1 V = some (mO V (nI 0) hi ac tp ba en at_ fa dp io hm_ we sh so) := gs_at
  have hm2 : (gs G V (mO V (nI 0) hi ac tp ba en at_ fa dp io hm_ we sh so)).1 (V + 1) = some (aI 750 mm) := (gs_ne (by omega)).trans hm
  refine Ct.intro rfl (by decide) [.ref V, .float 0, .float 0, .float 0, .float 0] (by simp [Value.category]) (Nat.le_of_ble_eq_true rfl) rfl ?_
  refine w_aload_n dX8_rests_0 rfl ?_
  refine w_iconst (v := nI 0) dX8_rests_1 (by decide) ?_
  refine w_putf dX8_rests_2 fl_X8_39 (by first | assumption | exact gs_at | (rw [gs_ne (by omega)]; (first | assumption | exact gs_at | (rw [gs_ne (by omega)]; (first | assumption | exact gs_at | (rw [gs_ne (by omega)]; (first | assumption | exact gs_at | (rw [gs_ne (by omega)]; (first | assumption | exact gs_at))))))))) (by simp) rfl rfl ?_
  refine w_iconst (v := nI 0) dX8_rests_5 (by decide) ?_
  refine w_istore_1 dX8_rests_6 rfl ?_
  refine w_iconst (v := nI 0) dX8_rests_7 (by decide) ?_
  refine w_istore_2 dX8_rests_8 rfl ?_
  exact ml_mrests hV2 hm2 hR hB ⟨rfl, rfl⟩ 5 0 (by omega) (by omega) _ _
theorem m_fault {E : EV} {V : Nat} {th hi ac tp ba en at_ fa dp io hm_ we sh so : Int32} {G : AH} (hV : G.1 V = some (mO V th hi ac tp ba en at_ fa dp io hm_ we sh so)) : Cu E 1 kX8_fault [.ref V] G (.int fa) (gs G V (mO V (nI 0) hi ac tp ba en at_ fa dp io hm_ we sh so)) := by
  refine Ct.intro rfl (by decide) [.ref V] (by simp [Value.category]) (Nat.le_of_ble_eq_true rfl) rfl ?_
  refine w_aload_n dX8_fault_0 rfl ?_
  refine w_iconst (v := nI 0) dX8_fault_1 (by decide) ?_
  refine w_putf dX8_fault_2 fl_X8_39 (by first | assumption | exact gs_at | (rw [gs_ne (by omega)]; (first | assumption | exact gs_at | (rw [gs_ne (by omega)]; (first | assumption | exact gs_at | (rw [gs_ne (by omega)]; (first | assumption | exact gs_at | (rw [gs_ne (by omega)]; (first | assumption | exact gs_at))))))))) (by simp) rfl rfl ?_
  refine w_aload_n dX8_fault_5 rfl ?_
  refine w_getf dX8_fault_6 fl_X8_25 (by first | assumption | exact gs_at | (rw [gs_ne (by omega)]; (first | assumption | exact gs_at | (rw [gs_ne (by omega)]; (first | assumption | exact gs_at | (rw [gs_ne (by omega)]; (first | assumption | exact gs_at | (rw [gs_ne (by omega)]; (first | assumption | exact gs_at))))))))) rfl ?_
  refine w_iret dX8_fault_9 rfl (Nat.le_of_ble_eq_true rfl) (Nat.le_of_ble_eq_true rfl) ?_
  exact ⟨rfl, rfl⟩
theorem m_thrown {E : EV} {V : Nat} {th hi ac tp ba en at_ fa dp io hm_ we sh so : Int32} {G : AH} (hV : G.1 V = some (mO V th hi ac tp ba en at_ fa dp io hm_ we sh so)) : Cu E 1 kX8_thrown [.ref V] G (.int th) G := by
  refine Ct.intro rfl (by decide) [.ref V] (by simp [Value.category]) (Nat.le_of_ble_eq_true rfl) rfl ?_
  refine w_aload_n dX8_thrown_0 rfl ?_
  refine w_getf dX8_thrown_1 fl_X8_39 (by first | assumption | exact gs_at | (rw [gs_ne (by omega)]; (first | assumption | exact gs_at | (rw [gs_ne (by omega)]; (first | assumption | exact gs_at | (rw [gs_ne (by omega)]; (first | assumption | exact gs_at | (rw [gs_ne (by omega)]; (first | assumption | exact gs_at))))))))) rfl ?_
  refine w_iret dX8_thrown_4 rfl (Nat.le_of_ble_eq_true rfl) (Nat.le_of_ble_eq_true rfl) ?_
  exact ⟨rfl, rfl⟩
theorem m_logged {E : EV} {V : Nat} {th hi ac tp ba en at_ fa dp io hm_ we sh so : Int32} {mm : Nat → Int32} {T : ST} {sd : Int32} {G : AH} {a w : Nat} (hV : G.1 V = some (mO V th hi ac tp ba en at_ fa dp io hm_ we sh so)) (hm : G.1 (V + 1) = some (aI 750 mm)) (hR : MoR mm T sd) (hB : Bd T) (ha : a < T 12 6) (hw : w < 4) : Cu E 1 kX8_logged [.ref V, .int (nI a), .int (nI w)] G (.int (nI (lgC T a w))) G := by
  obtain ⟨r0, r3, r4, r5, r6, r7, r9, r11, r12, r14, r20, r26, rL⟩ := id hR
  obtain ⟨b0, b1, b2_, b3, b4, b5, b6, b7, b8, b9, b10, b11, b12, b13, b14, b15, b16, b17, b18, b19⟩ := id hB
  refine Ct.intro rfl (by decide) [.ref V, .int (nI a), .int (nI w)] (by simp [Value.category]) (Nat.le_of_ble_eq_true rfl) rfl ?_
  refine w_aload_n dX8_logged_0 rfl ?_
  refine w_getf dX8_logged_1 fl_X8_7 (by first | assumption | exact gs_at | (rw [gs_ne (by omega)]; (first | assumption | exact gs_at | (rw [gs_ne (by omega)]; (first | assumption | exact gs_at | (rw [gs_ne (by omega)]; (first | assumption | exact gs_at | (rw [gs_ne (by omega)]; (first | assumption | exact gs_at))))))))) rfl ?_
  refine w_bipush (v := nI 110) dX8_logged_4 (by decide) ?_
  refine w_iconst (v := nI 4) dX8_logged_6 (by decide) ?_
  refine w_iload_n dX8_logged_7 rfl ?_
  first | refine w_imulN dX8_logged_8 ?_ | refine w_imul dX8_logged_8 ?_
  first | refine w_iaddN dX8_logged_9 ?_ | refine w_iadd dX8_logged_9 ?_
  refine w_iload_n dX8_logged_10 rfl ?_
  first | refine w_iaddN dX8_logged_11 ?_ | refine w_iadd dX8_logged_11 ?_
  refine w_iaload dX8_logged_12 (by first | assumption | exact gs_at | (rw [gs_ne (by omega)]; (first | assumption | exact gs_at | (rw [gs_ne (by omega)]; (first | assumption | exact gs_at | (rw [gs_ne (by omega)]; (first | assumption | exact gs_at | (rw [gs_ne (by omega)]; (first | assumption | exact gs_at))))))))) (by first | assumption | exact vp_in_nI (by omega) (by omega) | exact vp_in_nI (by assumption) (by omega)) ?_
  rw [nI_clamp (by omega)]
  rw [rL a w ha hw]
  refine w_iret dX8_logged_13 rfl (Nat.le_of_ble_eq_true rfl) (Nat.le_of_ble_eq_true rfl) ?_
  exact ⟨rfl, rfl⟩
theorem okI_in60 {n : Nat} (hn : n ≤ 60) {x : Int32} : b2 (inP x (nI 0) (nI n - nI 1)) = b2 (okI n x) := by
  have e : (inP x (nI 0) (nI n - nI 1)) = (okI n x) := by
    unfold inP okI
    refine propext ⟨fun h => ⟨h.1, ?_⟩, fun h => ⟨h.1, ?_⟩⟩
    · rcases pk_ix x (show 70 < 2 ^ 31 by decide) with h1 | h1 | ⟨j, hj, h2⟩
      · exact absurd h1 h.1
      · have h3 := Int32.le_trans h1 h.2
        by_cases h0 : n = 0
        · subst h0; exact absurd h3 (by decide)
        · rw [pk_sub (by omega), nI_leI (by omega) (by omega)] at h3; omega
      · subst h2; have h3 := (hiL (show j < 2 ^ 30 by omega) (show n < 2 ^ 30 by omega)).mp h.2; exact nI_lt h3 (by omega)
    · obtain ⟨j, hj, h2⟩ := in_N (n := n) (by omega) h
      subst h2
      exact (hiL (by omega) (by omega)).mpr hj
  unfold b2
  by_cases h : okI n x
  · rw [if_pos h, if_pos (e ▸ h)]
  · rw [if_neg h, if_neg (fun h2 => h (e ▸ h2))]
theorem mr_m_log {E : EV} {Q : OC → AH → Prop} {V : Nat} {th hi ac tp ba en at_ fa dp io hm_ we sh so : Int32} {G : AH} {x w : Int32} {j : Nat} (hV : G.1 V = some (mO V th hi ac tp ba en at_ fa dp io hm_ we sh so)) (hj : 0 < j ∧ j < 4) (hQ : Q (.inl (some (.int (nI 0)))) (gs G V (mO V (nI j) hi ac tp ba en at_ fa dp io hm_ we sh so))) : Wp E 2 0 0 kX8_log Q G (0, 0) 15 [.ref V, .int x, .int w] [.int (nI j), .ref V] := by
  refine w_putf dX8_log_15 fl_X8_39 (by first | assumption | exact gs_at | (rw [gs_ne (by omega)]; (first | assumption | exact gs_at | (rw [gs_ne (by omega)]; (first | assumption | exact gs_at | (rw [gs_ne (by omega)]; (first | assumption | exact gs_at | (rw [gs_ne (by omega)]; (first | assumption | exact gs_at))))))))) (by simp) rfl rfl ?_
  refine w_aload_n dX8_log_18 rfl ?_
  refine w_getf dX8_log_19 fl_X8_39 (by first | assumption | exact gs_at | (rw [gs_ne (by omega)]; (first | assumption | exact gs_at | (rw [gs_ne (by omega)]; (first | assumption | exact gs_at | (rw [gs_ne (by omega)]; (first | assumption | exact gs_at | (rw [gs_ne (by omega)]; (first | assumption | exact gs_at))))))))) rfl ?_
  refine w_ifN_le (tgt := 27) dX8_log_22 (by decide) (fun c_22 => ?_) (fun c_22 => ?_)
  · try simp (disch := omega) only [nI_b2, Decidable.not_not, nI_ltI, nI_leI, nI_eq, ge_iff_le, gt_iff_lt, ne_eq, Nat.not_lt, Nat.not_le] at c_22
    exact absurd c_22 (by omega)
  · try simp (disch := omega) only [nI_b2, Decidable.not_not, nI_ltI, nI_leI, nI_eq, ge_iff_le, gt_iff_lt, ne_eq, Nat.not_lt, Nat.not_le] at c_22
    refine w_iconst (v := nI 0) dX8_log_25 (by decide) ?_
    refine w_iret dX8_log_26 rfl (Nat.le_of_ble_eq_true rfl) (Nat.le_of_ble_eq_true rfl) ?_
    exact hQ
theorem mk_m_log {E : EV} {Q : OC → AH → Prop} {V : Nat} {th hi ac tp ba en at_ fa dp io hm_ we sh so : Int32} {mm : Nat → Int32} {T : ST} {sd : Int32} {G : AH} {x : Int32} {w : Nat} (hw9 : w ≤ 3) (hV : G.1 V = some (mO V th hi ac tp ba en at_ fa dp io hm_ we sh so)) (hm : G.1 (V + 1) = some (aI 750 mm)) (hR : MoR mm T sd) (hB : Bd T) (hQ : Q (.inl (some (.int (logV T x (nI w))))) (gs G V (mO V (nI 0) hi ac tp ba en at_ fa dp io hm_ we sh so))) : Wp E 2 0 0 kX8_log Q G (0, 0) 15 [.ref V, .int x, .int (nI w)] [.int (nI 0), .ref V] := by
  obtain ⟨r0, r3, r4, r5, r6, r7, r9, r11, r12, r14, r20, r26, rL⟩ := id hR
  obtain ⟨b0, b1, b2_, b3, b4, b5, b6, b7, b8, b9, b10, b11, b12, b13, b14, b15, b16, b17, b18, b19⟩ := id hB
  have hV2 : (gs G V (mO V (nI 0) hi ac tp ba en at_ fa dp io hm_ we sh so)).1 V = some (mO V (nI 0) hi ac tp ba en at_ fa dp io hm_ we sh so) := gs_at
  have hm2 : (gs G V (mO V (nI 0) hi ac tp ba en at_ fa dp io hm_ we sh so)).1 (V + 1) = some (aI 750 mm) := (gs_ne (by omega)).trans hm
  refine w_putf dX8_log_15 fl_X8_39 (by first | assumption | exact gs_at | (rw [gs_ne (by omega)]; (first | assumption | exact gs_at | (rw [gs_ne (by omega)]; (first | assumption | exact gs_at | (rw [gs_ne (by omega)]; (first | assumption | exact gs_at | (rw [gs_ne (by omega)]; (first | assumption | exact gs_at))))))))) (by simp) rfl rfl ?_
  refine w_aload_n dX8_log_18 rfl ?_
  refine w_getf dX8_log_19 fl_X8_39 (by first | assumption | exact gs_at | (rw [gs_ne (by omega)]; (first | assumption | exact gs_at | (rw [gs_ne (by omega)]; (first | assumption | exact gs_at | (rw [gs_ne (by omega)]; (first | assumption | exact gs_at | (rw [gs_ne (by omega)]; (first | assumption | exact gs_at))))))))) rfl ?_
  refine w_ifN_le (tgt := 27) dX8_log_22 (by decide) (fun c_22 => ?_) (fun c_22 => ?_)
  · try simp (disch := omega) only [nI_b2, Decidable.not_not, nI_ltI, nI_leI, nI_eq, ge_iff_le, gt_iff_lt, ne_eq, Nat.not_lt, Nat.not_le] at c_22
    refine w_iload_n dX8_log_27 rfl ?_
    refine w_iconst (v := nI 0) dX8_log_28 (by decide) ?_
    refine w_aload_n dX8_log_29 rfl ?_
    refine w_getf dX8_log_30 fl_X8_7 (by first | assumption | exact gs_at | (rw [gs_ne (by omega)]; (first | assumption | exact gs_at | (rw [gs_ne (by omega)]; (first | assumption | exact gs_at | (rw [gs_ne (by omega)]; (first | assumption | exact gs_at | (rw [gs_ne (by omega)]; (first | assumption | exact gs_at))))))))) rfl ?_
    refine w_bipush (v := nI 11) dX8_log_33 (by decide) ?_
    refine w_iaload dX8_log_35 (by first | assumption | exact gs_at | (rw [gs_ne (by omega)]; (first | assumption | exact gs_at | (rw [gs_ne (by omega)]; (first | assumption | exact gs_at | (rw [gs_ne (by omega)]; (first | assumption | exact gs_at | (rw [gs_ne (by omega)]; (first | assumption | exact gs_at))))))))) (by first | assumption | exact vp_in_nI (by omega) (by omega) | exact vp_in_nI (by assumption) (by omega)) ?_
    rw [nI_clamp (by omega)]
    first | rw [r3] | rw [r4] | rw [r5] | rw [r6] | rw [r0] | rw [r11] | rw [r12] | rw [r7 _ (by omega)] | rw [r9 _ (by omega)] | rw [r14 _ (by omega)] | rw [r20 _ (by omega)] | rw [r26 _ _ (by omega) (by omega)] | skip
    refine w_iconst (v := nI 1) dX8_log_36 (by decide) ?_
    refine w_isub dX8_log_37 ?_
    refine wS3u dX8_log_38 lk_X8_42 rfl (m_isIn) (Nat.le_of_ble_eq_true rfl) (Nat.le_of_ble_eq_true rfl) (Nat.le_of_ble_eq_true rfl) (Nat.le_of_ble_eq_true rfl) ?_
    rw [okI_in60 b18]
    have hc9 : okI (T 12 6) x ∨ ¬ okI (T 12 6) x := Decidable.em _
    refine w_ifN_eq (tgt := 53) dX8_log_41 (by decide) (fun c_41 => ?_) (fun c_41 => ?_)
    · try simp (disch := omega) only [nI_b2, Decidable.not_not, nI_ltI, nI_leI, nI_eq, ge_iff_le, gt_iff_lt, ne_eq, Nat.not_lt, Nat.not_le] at c_41
      refine w_iconst (v := (-1)) dX8_log_53 (by decide) ?_
      refine w_iret dX8_log_54 rfl (Nat.le_of_ble_eq_true rfl) (Nat.le_of_ble_eq_true rfl) ?_
      first
        | (rw [logV, if_neg c_41.1, if_pos c_41.2, ix_nI (by omega), ix_nI (by omega)] at hQ; exact hQ)
        | (have hl : logV T x (nI w) = -1 := (by unfold logV; by_cases h1 : x < nI 0; (rw [if_pos h1]); (rw [if_neg h1, if_neg (fun h2 => c_41 ⟨h1, h2⟩)])); rw [hl] at hQ; exact hQ)
    · try simp (disch := omega) only [nI_b2, Decidable.not_not, nI_ltI, nI_leI, nI_eq, ge_iff_le, gt_iff_lt, ne_eq, Nat.not_lt, Nat.not_le] at c_41
      obtain ⟨i, hi9, e⟩ := in_N (n := T 12 6) (by omega) c_41
      subst e
      refine w_aload_n dX8_log_44 rfl ?_
      refine w_iload_n dX8_log_45 rfl ?_
      refine w_iload_n dX8_log_46 rfl ?_
      refine wV2u dX8_log_47 lk_X8_340 rfl (by first | assumption | exact gs_at | (rw [gs_ne (by omega)]; (first | assumption | exact gs_at | (rw [gs_ne (by omega)]; (first | assumption | exact gs_at | (rw [gs_ne (by omega)]; (first | assumption | exact gs_at | (rw [gs_ne (by omega)]; (first | assumption | exact gs_at))))))))) rfl rfl (m_logged hV2 hm2 hR hB (by omega) (by omega)) (Nat.le_of_ble_eq_true rfl) (Nat.le_of_ble_eq_true rfl) (Nat.le_of_ble_eq_true rfl) (Nat.le_of_ble_eq_true rfl) ?_
      refine w_goto (tgt := 54) dX8_log_50 (by decide) ?_
      refine w_iret dX8_log_54 rfl (Nat.le_of_ble_eq_true rfl) (Nat.le_of_ble_eq_true rfl) ?_
      first
        | (rw [logV, if_neg c_41.1, if_pos c_41.2, ix_nI (by omega), ix_nI (by omega)] at hQ; exact hQ)
        | (have hl : logV T x (nI w) = -1 := (by unfold logV; by_cases h1 : x < nI 0; (rw [if_pos h1]); (rw [if_neg h1, if_neg (fun h2 => c_41 ⟨h1, h2⟩)])); rw [hl] at hQ; exact hQ)
  · try simp (disch := omega) only [nI_b2, Decidable.not_not, nI_ltI, nI_leI, nI_eq, ge_iff_le, gt_iff_lt, ne_eq, Nat.not_lt, Nat.not_le] at c_22
    exact absurd c_22 (by decide)
theorem m_log {E : EV} {V : Nat} {th hi ac tp ba en at_ fa dp io hm_ we sh so : Int32} {mm : Nat → Int32} {T : ST} {sd : Int32} {G : AH} {x w : Int32} (hV : G.1 V = some (mO V th hi ac tp ba en at_ fa dp io hm_ we sh so)) (hm : G.1 (V + 1) = some (aI 750 mm)) (hR : MoR mm T sd) (hB : Bd T)  : Cu E 2 kX8_log [.ref V, .int x, .int w] G (.int (if xk1 (okN 0 (nI 3) w) = 0 then logV T x w else nI 0)) (gs G V (mO V (nI (xk1 (okN 0 (nI 3) w))) hi ac tp ba en at_ fa dp io hm_ we sh so)) := by
  refine Ct.intro rfl (by decide) [.ref V, .int x, .int w] (by simp [Value.category]) (Nat.le_of_ble_eq_true rfl) rfl ?_
  obtain ⟨r0, r3, r4, r5, r6, r7, r9, r11, r12, r14, r20, r26, rL⟩ := id hR
  obtain ⟨b0, b1, b2_, b3, b4, b5, b6, b7, b8, b9, b10, b11, b12, b13, b14, b15, b16, b17, b18, b19⟩ := id hB
  refine w_aload_n dX8_log_0 rfl ?_
  refine w_iload_n dX8_log_1 rfl ?_
  refine w_iconst (v := nI 0) dX8_log_2 (by decide) ?_
  refine w_iconst (v := nI 3) dX8_log_3 (by decide) ?_
  refine wS3u dX8_log_4 lk_X8_42 rfl (m_isIn) (Nat.le_of_ble_eq_true rfl) (Nat.le_of_ble_eq_true rfl) (Nat.le_of_ble_eq_true rfl) (Nat.le_of_ble_eq_true rfl) ?_
  refine w_ifN_ne (tgt := 14) dX8_log_7 (by decide) (fun c_7 => ?_) (fun c_7 => ?_)
  · try simp (disch := omega) only [nI_b2, Decidable.not_not, nI_ltI, nI_leI, nI_eq, ge_iff_le, gt_iff_lt, ne_eq, Nat.not_lt, Nat.not_le] at c_7
    refine w_iconst (v := nI 0) dX8_log_14 (by decide) ?_
    first
      | (have kx : xk1 (okN 0 (nI 3) w) = 1 := (by rw [xk1, if_neg c_7]); exact mr_m_log hV (by decide) ⟨by rw [kx]; rfl, by rw [kx]⟩)
      | (have kx : xk1 (okN 0 (nI 3) w) = 0 := (by rw [xk1, if_pos c_7]); obtain ⟨w9, hw8, hw9, e2⟩ := in_L (a := 0) (n := 3) (by omega) (by omega) c_7; subst e2; exact mk_m_log hw9 hV hm hR hB ⟨by rw [kx, if_pos rfl], by rw [kx]⟩)
  · try simp (disch := omega) only [nI_b2, Decidable.not_not, nI_ltI, nI_leI, nI_eq, ge_iff_le, gt_iff_lt, ne_eq, Nat.not_lt, Nat.not_le] at c_7
    refine w_iconst (v := nI 1) dX8_log_10 (by decide) ?_
    refine w_goto (tgt := 15) dX8_log_11 (by decide) ?_
    first
      | (have kx : xk1 (okN 0 (nI 3) w) = 1 := (by rw [xk1, if_neg c_7]); exact mr_m_log hV (by decide) ⟨by rw [kx]; rfl, by rw [kx]⟩)
      | (have kx : xk1 (okN 0 (nI 3) w) = 0 := (by rw [xk1, if_pos c_7]); obtain ⟨w9, hw8, hw9, e2⟩ := in_L (a := 0) (n := 3) (by omega) (by omega) c_7; subst e2; exact mk_m_log hw9 hV hm hR hB ⟨by rw [kx, if_pos rfl], by rw [kx]⟩)
theorem mr_m_boats {E : EV} {Q : OC → AH → Prop} {V : Nat} {th hi ac tp ba en at_ fa dp io hm_ we sh so : Int32} {G : AH} {x y z : Int32} {j : Nat} (hV : G.1 V = some (mO V th hi ac tp ba en at_ fa dp io hm_ we sh so)) (hj : 0 < j ∧ j < 4) (hQ : Q (.inl (some (.int (nI 0)))) (gs G V (mO V (nI j) hi ac tp ba en at_ fa dp io hm_ we sh so))) : Wp E 2 0 0 kX8_boats Q G (0, 0) 37 [.ref V, .int x, .int y, .int z] [.int (nI j), .ref V] := by
  refine w_putf dX8_boats_37 fl_X8_39 (by first | assumption | exact gs_at | (rw [gs_ne (by omega)]; (first | assumption | exact gs_at | (rw [gs_ne (by omega)]; (first | assumption | exact gs_at | (rw [gs_ne (by omega)]; (first | assumption | exact gs_at | (rw [gs_ne (by omega)]; (first | assumption | exact gs_at))))))))) (by simp) rfl rfl ?_
  refine w_aload_n dX8_boats_40 rfl ?_
  refine w_getf dX8_boats_41 fl_X8_39 (by first | assumption | exact gs_at | (rw [gs_ne (by omega)]; (first | assumption | exact gs_at | (rw [gs_ne (by omega)]; (first | assumption | exact gs_at | (rw [gs_ne (by omega)]; (first | assumption | exact gs_at | (rw [gs_ne (by omega)]; (first | assumption | exact gs_at))))))))) rfl ?_
  refine w_ifN_le (tgt := 51) dX8_boats_44 (by decide) (fun c_44 => ?_) (fun c_44 => ?_)
  · try simp (disch := omega) only [nI_b2, Decidable.not_not, nI_ltI, nI_leI, nI_eq, ge_iff_le, gt_iff_lt, ne_eq, Nat.not_lt, Nat.not_le] at c_44
    exact absurd c_44 (by omega)
  · try simp (disch := omega) only [nI_b2, Decidable.not_not, nI_ltI, nI_leI, nI_eq, ge_iff_le, gt_iff_lt, ne_eq, Nat.not_lt, Nat.not_le] at c_44
    refine w_iconst (v := nI 0) dX8_boats_47 (by decide) ?_
    refine w_goto (tgt := 58) dX8_boats_48 (by decide) ?_
    refine w_iret dX8_boats_58 rfl (Nat.le_of_ble_eq_true rfl) (Nat.le_of_ble_eq_true rfl) ?_
    exact hQ
theorem mk_m_boats {E : EV} {Q : OC → AH → Prop} {V : Nat} {th hi ac tp ba en at_ fa dp io hm_ we sh so : Int32} {mm : Nat → Int32} {T : ST} {sd : Int32} {G : AH} {i j l : Nat} (hi9 : i ≤ 999) (hj8 : 1 ≤ j) (hj9 : j ≤ 99) (hl8 : 1 ≤ l) (hl9 : l ≤ 9) (hV : G.1 V = some (mO V th hi ac tp ba en at_ fa dp io hm_ we sh so)) (hm : G.1 (V + 1) = some (aI 750 mm)) (hR : MoR mm T sd) (hB : Bd T) (hQ : Q (.inl (some (.int (nI ((i + j * l - 1) / (j * l)))))) (gs G V (mO V (nI 0) hi ac tp ba en at_ fa dp io hm_ we sh so))) : Wp E 2 0 0 kX8_boats Q G (0, 0) 37 [.ref V, .int (nI i), .int (nI j), .int (nI l)] [.int (nI 0), .ref V] := by
  obtain ⟨r0, r3, r4, r5, r6, r7, r9, r11, r12, r14, r20, r26, rL⟩ := id hR
  obtain ⟨b0, b1, b2_, b3, b4, b5, b6, b7, b8, b9, b10, b11, b12, b13, b14, b15, b16, b17, b18, b19⟩ := id hB
  have hV2 : (gs G V (mO V (nI 0) hi ac tp ba en at_ fa dp io hm_ we sh so)).1 V = some (mO V (nI 0) hi ac tp ba en at_ fa dp io hm_ we sh so) := gs_at
  have hm2 : (gs G V (mO V (nI 0) hi ac tp ba en at_ fa dp io hm_ we sh so)).1 (V + 1) = some (aI 750 mm) := (gs_ne (by omega)).trans hm
  refine w_putf dX8_boats_37 fl_X8_39 (by first | assumption | exact gs_at | (rw [gs_ne (by omega)]; (first | assumption | exact gs_at | (rw [gs_ne (by omega)]; (first | assumption | exact gs_at | (rw [gs_ne (by omega)]; (first | assumption | exact gs_at | (rw [gs_ne (by omega)]; (first | assumption | exact gs_at))))))))) (by simp) rfl rfl ?_
  refine w_aload_n dX8_boats_40 rfl ?_
  refine w_getf dX8_boats_41 fl_X8_39 (by first | assumption | exact gs_at | (rw [gs_ne (by omega)]; (first | assumption | exact gs_at | (rw [gs_ne (by omega)]; (first | assumption | exact gs_at | (rw [gs_ne (by omega)]; (first | assumption | exact gs_at | (rw [gs_ne (by omega)]; (first | assumption | exact gs_at))))))))) rfl ?_
  refine w_ifN_le (tgt := 51) dX8_boats_44 (by decide) (fun c_44 => ?_) (fun c_44 => ?_)
  · try simp (disch := omega) only [nI_b2, Decidable.not_not, nI_ltI, nI_leI, nI_eq, ge_iff_le, gt_iff_lt, ne_eq, Nat.not_lt, Nat.not_le] at c_44
    have hm1 := Nat.mul_le_mul hj9 hl9
    have hm2_ := Nat.mul_le_mul hj8 hl8
    refine w_iload_n dX8_boats_51 rfl ?_
    refine w_iload_n dX8_boats_52 rfl ?_
    refine w_iload_n dX8_boats_53 rfl ?_
    first | refine w_imulN dX8_boats_54 ?_ | refine w_imul dX8_boats_54 ?_
    refine wS2u dX8_boats_55 lk_X8_231 rfl (m_rounded (by omega) (by omega) (by omega)) (Nat.le_of_ble_eq_true rfl) (Nat.le_of_ble_eq_true rfl) (Nat.le_of_ble_eq_true rfl) (Nat.le_of_ble_eq_true rfl) ?_
    refine w_iret dX8_boats_58 rfl (Nat.le_of_ble_eq_true rfl) (Nat.le_of_ble_eq_true rfl) ?_
    exact hQ
  · try simp (disch := omega) only [nI_b2, Decidable.not_not, nI_ltI, nI_leI, nI_eq, ge_iff_le, gt_iff_lt, ne_eq, Nat.not_lt, Nat.not_le] at c_44
    exact absurd c_44 (by decide)
theorem m_boats {E : EV} {V : Nat} {th hi ac tp ba en at_ fa dp io hm_ we sh so : Int32} {mm : Nat → Int32} {T : ST} {sd : Int32} {G : AH} {x y z : Int32} (hV : G.1 V = some (mO V th hi ac tp ba en at_ fa dp io hm_ we sh so)) (hm : G.1 (V + 1) = some (aI 750 mm)) (hR : MoR mm T sd) (hB : Bd T)  : Cu E 2 kX8_boats [.ref V, .int x, .int y, .int z] G (.int (if xk1 (okN 0 (nI 999) x ∧ okN 1 (nI 99) y ∧ okN 1 (nI 9) z) = 0 then nI ((ix x + ix y * ix z - 1) / (ix y * ix z)) else nI 0)) (gs G V (mO V (nI (xk1 (okN 0 (nI 999) x ∧ okN 1 (nI 99) y ∧ okN 1 (nI 9) z))) hi ac tp ba en at_ fa dp io hm_ we sh so)) := by
  refine Ct.intro rfl (by decide) [.ref V, .int x, .int y, .int z] (by simp [Value.category]) (Nat.le_of_ble_eq_true rfl) rfl ?_
  obtain ⟨r0, r3, r4, r5, r6, r7, r9, r11, r12, r14, r20, r26, rL⟩ := id hR
  obtain ⟨b0, b1, b2_, b3, b4, b5, b6, b7, b8, b9, b10, b11, b12, b13, b14, b15, b16, b17, b18, b19⟩ := id hB
  refine w_aload_n dX8_boats_0 rfl ?_
  refine w_iload_n dX8_boats_1 rfl ?_
  refine w_iconst (v := nI 0) dX8_boats_2 (by decide) ?_
  refine w_sipush (v := nI 999) dX8_boats_3 (by decide) ?_
  refine wS3u dX8_boats_6 lk_X8_42 rfl (m_isIn) (Nat.le_of_ble_eq_true rfl) (Nat.le_of_ble_eq_true rfl) (Nat.le_of_ble_eq_true rfl) (Nat.le_of_ble_eq_true rfl) ?_
  refine w_ifN_eq (tgt := 32) dX8_boats_9 (by decide) (fun c_9 => ?_) (fun c_9 => ?_)
  · try simp (disch := omega) only [nI_b2, Decidable.not_not, nI_ltI, nI_leI, nI_eq, ge_iff_le, gt_iff_lt, ne_eq, Nat.not_lt, Nat.not_le] at c_9
    refine w_iconst (v := nI 1) dX8_boats_32 (by decide) ?_
    refine w_goto (tgt := 37) dX8_boats_33 (by decide) ?_
    first
      | (have kx : xk1 (okN 0 (nI 999) x ∧ okN 1 (nI 99) y ∧ okN 1 (nI 9) z) = 1 := (by rw [xk1, if_neg (fun h => c_9 h.1)]); exact mr_m_boats hV (by decide) ⟨by rw [kx]; rfl, by rw [kx]⟩)
      | (have kx : xk1 (okN 0 (nI 999) x ∧ okN 1 (nI 99) y ∧ okN 1 (nI 9) z) = 1 := (by rw [xk1, if_neg (fun h => c_19 h.2.1)]); exact mr_m_boats hV (by decide) ⟨by rw [kx]; rfl, by rw [kx]⟩)
      | (have kx : xk1 (okN 0 (nI 999) x ∧ okN 1 (nI 99) y ∧ okN 1 (nI 9) z) = 1 := (by rw [xk1, if_neg (fun h => c_29 h.2.2)]); exact mr_m_boats hV (by decide) ⟨by rw [kx]; rfl, by rw [kx]⟩)
      | (have kx : xk1 (okN 0 (nI 999) x ∧ okN 1 (nI 99) y ∧ okN 1 (nI 9) z) = 0 := (by rw [xk1, if_pos ⟨c_9, c_19, c_29⟩]); obtain ⟨i, hi8, hi9, e⟩ := in_L (a := 0) (n := 999) (by omega) (by omega) c_9; subst e; obtain ⟨j, hj8, hj9, e2⟩ := in_L (a := 1) (n := 99) (by omega) (by omega) c_19; subst e2; obtain ⟨l, hl8, hl9, e3⟩ := in_L (a := 1) (n := 9) (by omega) (by omega) c_29; subst e3; exact mk_m_boats hi9 hj8 hj9 hl8 hl9 hV hm hR hB ⟨by rw [kx, if_pos rfl, ix_nI (by omega), ix_nI (by omega), ix_nI (by omega)], by rw [kx]⟩)
  · try simp (disch := omega) only [nI_b2, Decidable.not_not, nI_ltI, nI_leI, nI_eq, ge_iff_le, gt_iff_lt, ne_eq, Nat.not_lt, Nat.not_le] at c_9
    refine w_iload_n dX8_boats_12 rfl ?_
    refine w_iconst (v := nI 1) dX8_boats_13 (by decide) ?_
    refine w_bipush (v := nI 99) dX8_boats_14 (by decide) ?_
    refine wS3u dX8_boats_16 lk_X8_42 rfl (m_isIn) (Nat.le_of_ble_eq_true rfl) (Nat.le_of_ble_eq_true rfl) (Nat.le_of_ble_eq_true rfl) (Nat.le_of_ble_eq_true rfl) ?_
    refine w_ifN_eq (tgt := 32) dX8_boats_19 (by decide) (fun c_19 => ?_) (fun c_19 => ?_)
    · try simp (disch := omega) only [nI_b2, Decidable.not_not, nI_ltI, nI_leI, nI_eq, ge_iff_le, gt_iff_lt, ne_eq, Nat.not_lt, Nat.not_le] at c_19
      refine w_iconst (v := nI 1) dX8_boats_32 (by decide) ?_
      refine w_goto (tgt := 37) dX8_boats_33 (by decide) ?_
      first
        | (have kx : xk1 (okN 0 (nI 999) x ∧ okN 1 (nI 99) y ∧ okN 1 (nI 9) z) = 1 := (by rw [xk1, if_neg (fun h => c_9 h.1)]); exact mr_m_boats hV (by decide) ⟨by rw [kx]; rfl, by rw [kx]⟩)
        | (have kx : xk1 (okN 0 (nI 999) x ∧ okN 1 (nI 99) y ∧ okN 1 (nI 9) z) = 1 := (by rw [xk1, if_neg (fun h => c_19 h.2.1)]); exact mr_m_boats hV (by decide) ⟨by rw [kx]; rfl, by rw [kx]⟩)
        | (have kx : xk1 (okN 0 (nI 999) x ∧ okN 1 (nI 99) y ∧ okN 1 (nI 9) z) = 1 := (by rw [xk1, if_neg (fun h => c_29 h.2.2)]); exact mr_m_boats hV (by decide) ⟨by rw [kx]; rfl, by rw [kx]⟩)
        | (have kx : xk1 (okN 0 (nI 999) x ∧ okN 1 (nI 99) y ∧ okN 1 (nI 9) z) = 0 := (by rw [xk1, if_pos ⟨c_9, c_19, c_29⟩]); obtain ⟨i, hi8, hi9, e⟩ := in_L (a := 0) (n := 999) (by omega) (by omega) c_9; subst e; obtain ⟨j, hj8, hj9, e2⟩ := in_L (a := 1) (n := 99) (by omega) (by omega) c_19; subst e2; obtain ⟨l, hl8, hl9, e3⟩ := in_L (a := 1) (n := 9) (by omega) (by omega) c_29; subst e3; exact mk_m_boats hi9 hj8 hj9 hl8 hl9 hV hm hR hB ⟨by rw [kx, if_pos rfl, ix_nI (by omega), ix_nI (by omega), ix_nI (by omega)], by rw [kx]⟩)
    · try simp (disch := omega) only [nI_b2, Decidable.not_not, nI_ltI, nI_leI, nI_eq, ge_iff_le, gt_iff_lt, ne_eq, Nat.not_lt, Nat.not_le] at c_19
      refine w_iload_n dX8_boats_22 rfl ?_
      refine w_iconst (v := nI 1) dX8_boats_23 (by decide) ?_
      refine w_bipush (v := nI 9) dX8_boats_24 (by decide) ?_
      refine wS3u dX8_boats_26 lk_X8_42 rfl (m_isIn) (Nat.le_of_ble_eq_true rfl) (Nat.le_of_ble_eq_true rfl) (Nat.le_of_ble_eq_true rfl) (Nat.le_of_ble_eq_true rfl) ?_
      refine w_ifN_ne (tgt := 36) dX8_boats_29 (by decide) (fun c_29 => ?_) (fun c_29 => ?_)
      · try simp (disch := omega) only [nI_b2, Decidable.not_not, nI_ltI, nI_leI, nI_eq, ge_iff_le, gt_iff_lt, ne_eq, Nat.not_lt, Nat.not_le] at c_29
        refine w_iconst (v := nI 0) dX8_boats_36 (by decide) ?_
        first
          | (have kx : xk1 (okN 0 (nI 999) x ∧ okN 1 (nI 99) y ∧ okN 1 (nI 9) z) = 1 := (by rw [xk1, if_neg (fun h => c_9 h.1)]); exact mr_m_boats hV (by decide) ⟨by rw [kx]; rfl, by rw [kx]⟩)
          | (have kx : xk1 (okN 0 (nI 999) x ∧ okN 1 (nI 99) y ∧ okN 1 (nI 9) z) = 1 := (by rw [xk1, if_neg (fun h => c_19 h.2.1)]); exact mr_m_boats hV (by decide) ⟨by rw [kx]; rfl, by rw [kx]⟩)
          | (have kx : xk1 (okN 0 (nI 999) x ∧ okN 1 (nI 99) y ∧ okN 1 (nI 9) z) = 1 := (by rw [xk1, if_neg (fun h => c_29 h.2.2)]); exact mr_m_boats hV (by decide) ⟨by rw [kx]; rfl, by rw [kx]⟩)
          | (have kx : xk1 (okN 0 (nI 999) x ∧ okN 1 (nI 99) y ∧ okN 1 (nI 9) z) = 0 := (by rw [xk1, if_pos ⟨c_9, c_19, c_29⟩]); obtain ⟨i, hi8, hi9, e⟩ := in_L (a := 0) (n := 999) (by omega) (by omega) c_9; subst e; obtain ⟨j, hj8, hj9, e2⟩ := in_L (a := 1) (n := 99) (by omega) (by omega) c_19; subst e2; obtain ⟨l, hl8, hl9, e3⟩ := in_L (a := 1) (n := 9) (by omega) (by omega) c_29; subst e3; exact mk_m_boats hi9 hj8 hj9 hl8 hl9 hV hm hR hB ⟨by rw [kx, if_pos rfl, ix_nI (by omega), ix_nI (by omega), ix_nI (by omega)], by rw [kx]⟩)
      · try simp (disch := omega) only [nI_b2, Decidable.not_not, nI_ltI, nI_leI, nI_eq, ge_iff_le, gt_iff_lt, ne_eq, Nat.not_lt, Nat.not_le] at c_29
        refine w_iconst (v := nI 1) dX8_boats_32 (by decide) ?_
        refine w_goto (tgt := 37) dX8_boats_33 (by decide) ?_
        first
          | (have kx : xk1 (okN 0 (nI 999) x ∧ okN 1 (nI 99) y ∧ okN 1 (nI 9) z) = 1 := (by rw [xk1, if_neg (fun h => c_9 h.1)]); exact mr_m_boats hV (by decide) ⟨by rw [kx]; rfl, by rw [kx]⟩)
          | (have kx : xk1 (okN 0 (nI 999) x ∧ okN 1 (nI 99) y ∧ okN 1 (nI 9) z) = 1 := (by rw [xk1, if_neg (fun h => c_19 h.2.1)]); exact mr_m_boats hV (by decide) ⟨by rw [kx]; rfl, by rw [kx]⟩)
          | (have kx : xk1 (okN 0 (nI 999) x ∧ okN 1 (nI 99) y ∧ okN 1 (nI 9) z) = 1 := (by rw [xk1, if_neg (fun h => c_29 h.2.2)]); exact mr_m_boats hV (by decide) ⟨by rw [kx]; rfl, by rw [kx]⟩)
          | (have kx : xk1 (okN 0 (nI 999) x ∧ okN 1 (nI 99) y ∧ okN 1 (nI 9) z) = 0 := (by rw [xk1, if_pos ⟨c_9, c_19, c_29⟩]); obtain ⟨i, hi8, hi9, e⟩ := in_L (a := 0) (n := 999) (by omega) (by omega) c_9; subst e; obtain ⟨j, hj8, hj9, e2⟩ := in_L (a := 1) (n := 99) (by omega) (by omega) c_19; subst e2; obtain ⟨l, hl8, hl9, e3⟩ := in_L (a := 1) (n := 9) (by omega) (by omega) c_29; subst e3; exact mk_m_boats hi9 hj8 hj9 hl8 hl9 hV hm hR hB ⟨by rw [kx, if_pos rfl, ix_nI (by omega), ix_nI (by omega), ix_nI (by omega)], by rw [kx]⟩)
theorem m_count {E : EV} {V : Nat} {th hi ac tp ba en at_ fa dp io hm_ we sh so : Int32} {mm : Nat → Int32} {T : ST} {sd : Int32} {G : AH} {w ln : Int32} {rm : Nat} (hV : G.1 V = some (mO V th hi ac tp ba en at_ fa dp io hm_ we sh so)) (hm : G.1 (V + 1) = some (aI 750 mm)) (hR : MoR mm T sd) (hB : Bd T) (hln : mm 1 = ln) (hac : ac = nI rm) : Cu E 3 kX8_count [.ref V, .int w] G (.int (cntV T ln rm w)) (gs G V (mO V (nI 0) hi ac tp ba en at_ fa dp io hm_ we sh so)) := by
  obtain ⟨r0, r3, r4, r5, r6, r7, r9, r11, r12, r14, r20, r26, rL⟩ := id hR
  obtain ⟨b0, b1, b2_, b3, b4, b5, b6, b7, b8, b9, b10, b11, b12, b13, b14, b15, b16, b17, b18, b19⟩ := id hB
  have hV2 : (gs G V (mO V (nI 0) hi ac tp ba en at_ fa dp io hm_ we sh so)).1 V = some (mO V (nI 0) hi ac tp ba en at_ fa dp io hm_ we sh so) := gs_at
  have hm2 : (gs G V (mO V (nI 0) hi ac tp ba en at_ fa dp io hm_ we sh so)).1 (V + 1) = some (aI 750 mm) := (gs_ne (by omega)).trans hm
  refine Ct.intro rfl (by decide) [.ref V, .int w] (by simp [Value.category]) (Nat.le_of_ble_eq_true rfl) rfl ?_
  refine w_aload_n dX8_count_0 rfl ?_
  refine w_iconst (v := nI 0) dX8_count_1 (by decide) ?_
  refine w_putf dX8_count_2 fl_X8_39 (by first | assumption | exact gs_at | (rw [gs_ne (by omega)]; (first | assumption | exact gs_at | (rw [gs_ne (by omega)]; (first | assumption | exact gs_at | (rw [gs_ne (by omega)]; (first | assumption | exact gs_at | (rw [gs_ne (by omega)]; (first | assumption | exact gs_at))))))))) (by simp) rfl rfl ?_
  refine w_iload_n dX8_count_5 rfl ?_
  refine w_ifN_ne (tgt := 16) dX8_count_6 (by decide) (fun c_6 => ?_) (fun c_6 => ?_)
  · skip
    refine w_iload_n dX8_count_16 rfl ?_
    refine w_iconst (v := nI 1) dX8_count_17 (by decide) ?_
    refine w_icmp_ne (tgt := 28) dX8_count_18 (by decide) (fun c_18 => ?_) (fun c_18 => ?_)
    · skip
      refine w_iload_n dX8_count_28 rfl ?_
      refine w_iconst (v := nI 2) dX8_count_29 (by decide) ?_
      refine w_icmp_ne (tgt := 40) dX8_count_30 (by decide) (fun c_30 => ?_) (fun c_30 => ?_)
      · skip
        refine w_iload_n dX8_count_40 rfl ?_
        refine w_iconst (v := nI 3) dX8_count_41 (by decide) ?_
        refine w_icmp_ne (tgt := 52) dX8_count_42 (by decide) (fun c_42 => ?_) (fun c_42 => ?_)
        · skip
          refine w_iload_n dX8_count_52 rfl ?_
          refine w_iconst (v := nI 4) dX8_count_53 (by decide) ?_
          refine w_icmp_ne (tgt := 62) dX8_count_54 (by decide) (fun c_54 => ?_) (fun c_54 => ?_)
          · skip
            refine w_iload_n dX8_count_62 rfl ?_
            refine w_iconst (v := nI 5) dX8_count_63 (by decide) ?_
            refine w_icmp_ne (tgt := 74) dX8_count_64 (by decide) (fun c_64 => ?_) (fun c_64 => ?_)
            · skip
              refine w_iload_n dX8_count_74 rfl ?_
              refine w_bipush (v := nI 6) dX8_count_75 (by decide) ?_
              refine w_icmp_ne (tgt := 85) dX8_count_77 (by decide) (fun c_77 => ?_) (fun c_77 => ?_)
              · skip
                refine w_iload_n dX8_count_85 rfl ?_
                refine w_bipush (v := nI 7) dX8_count_86 (by decide) ?_
                refine w_icmp_ne (tgt := 99) dX8_count_88 (by decide) (fun c_88 => ?_) (fun c_88 => ?_)
                · skip
                  refine w_iload_n dX8_count_99 rfl ?_
                  refine w_bipush (v := nI 8) dX8_count_100 (by decide) ?_
                  refine w_icmp_ne (tgt := 111) dX8_count_102 (by decide) (fun c_102 => ?_) (fun c_102 => ?_)
                  · skip
                    refine w_iload_n dX8_count_111 rfl ?_
                    refine w_bipush (v := nI 9) dX8_count_112 (by decide) ?_
                    refine w_icmp_ne (tgt := 123) dX8_count_114 (by decide) (fun c_114 => ?_) (fun c_114 => ?_)
                    · skip
                      refine w_iload_n dX8_count_123 rfl ?_
                      refine w_bipush (v := nI 10) dX8_count_124 (by decide) ?_
                      refine w_icmp_ne (tgt := 137) dX8_count_126 (by decide) (fun c_126 => ?_) (fun c_126 => ?_)
                      · skip
                        refine w_iload_n dX8_count_137 rfl ?_
                        refine w_bipush (v := nI 11) dX8_count_138 (by decide) ?_
                        refine w_icmp_ne (tgt := 150) dX8_count_140 (by decide) (fun c_140 => ?_) (fun c_140 => ?_)
                        · skip
                          refine w_iconst (v := (-1)) dX8_count_150 (by decide) ?_
                          refine w_iret dX8_count_151 rfl (Nat.le_of_ble_eq_true rfl) (Nat.le_of_ble_eq_true rfl) ?_
                          refine ⟨?_, rfl⟩
                          rw [cntV]
                          first
                            | (rw [if_pos c_6]; done)
                            | (rw [if_neg c_6, if_pos c_18]; done)
                            | (rw [if_neg c_6, if_neg c_18, if_pos c_30]; done)
                            | (rw [if_neg c_6, if_neg c_18, if_neg c_30, if_pos c_42]; done)
                            | (rw [if_neg c_6, if_neg c_18, if_neg c_30, if_neg c_42, if_pos c_54]; done)
                            | (rw [if_neg c_6, if_neg c_18, if_neg c_30, if_neg c_42, if_neg c_54, if_pos c_64]; done)
                            | (rw [if_neg c_6, if_neg c_18, if_neg c_30, if_neg c_42, if_neg c_54, if_neg c_64, if_pos c_77]; done)
                            | (rw [if_neg c_6, if_neg c_18, if_neg c_30, if_neg c_42, if_neg c_54, if_neg c_64, if_neg c_77, if_pos c_88]; done)
                            | (rw [if_neg c_6, if_neg c_18, if_neg c_30, if_neg c_42, if_neg c_54, if_neg c_64, if_neg c_77, if_neg c_88, if_pos c_102]; done)
                            | (rw [if_neg c_6, if_neg c_18, if_neg c_30, if_neg c_42, if_neg c_54, if_neg c_64, if_neg c_77, if_neg c_88, if_neg c_102, if_pos c_114]; done)
                            | (rw [if_neg c_6, if_neg c_18, if_neg c_30, if_neg c_42, if_neg c_54, if_neg c_64, if_neg c_77, if_neg c_88, if_neg c_102, if_neg c_114, if_pos c_126]; done)
                            | (rw [if_neg c_6, if_neg c_18, if_neg c_30, if_neg c_42, if_neg c_54, if_neg c_64, if_neg c_77, if_neg c_88, if_neg c_102, if_neg c_114, if_neg c_126, if_pos c_140, ← hac]; done)
                            | (rw [if_neg c_6, if_neg c_18, if_neg c_30, if_neg c_42, if_neg c_54, if_neg c_64, if_neg c_77, if_neg c_88, if_neg c_102, if_neg c_114, if_neg c_126, if_neg c_140]; done)
                        · skip
                          refine w_aload_n dX8_count_143 rfl ?_
                          refine w_getf dX8_count_144 fl_X8_158 (by first | assumption | exact gs_at | (rw [gs_ne (by omega)]; (first | assumption | exact gs_at | (rw [gs_ne (by omega)]; (first | assumption | exact gs_at | (rw [gs_ne (by omega)]; (first | assumption | exact gs_at | (rw [gs_ne (by omega)]; (first | assumption | exact gs_at))))))))) rfl ?_
                          refine w_goto (tgt := 151) dX8_count_147 (by decide) ?_
                          refine w_iret dX8_count_151 rfl (Nat.le_of_ble_eq_true rfl) (Nat.le_of_ble_eq_true rfl) ?_
                          refine ⟨?_, rfl⟩
                          rw [cntV]
                          first
                            | (rw [if_pos c_6]; done)
                            | (rw [if_neg c_6, if_pos c_18]; done)
                            | (rw [if_neg c_6, if_neg c_18, if_pos c_30]; done)
                            | (rw [if_neg c_6, if_neg c_18, if_neg c_30, if_pos c_42]; done)
                            | (rw [if_neg c_6, if_neg c_18, if_neg c_30, if_neg c_42, if_pos c_54]; done)
                            | (rw [if_neg c_6, if_neg c_18, if_neg c_30, if_neg c_42, if_neg c_54, if_pos c_64]; done)
                            | (rw [if_neg c_6, if_neg c_18, if_neg c_30, if_neg c_42, if_neg c_54, if_neg c_64, if_pos c_77]; done)
                            | (rw [if_neg c_6, if_neg c_18, if_neg c_30, if_neg c_42, if_neg c_54, if_neg c_64, if_neg c_77, if_pos c_88]; done)
                            | (rw [if_neg c_6, if_neg c_18, if_neg c_30, if_neg c_42, if_neg c_54, if_neg c_64, if_neg c_77, if_neg c_88, if_pos c_102]; done)
                            | (rw [if_neg c_6, if_neg c_18, if_neg c_30, if_neg c_42, if_neg c_54, if_neg c_64, if_neg c_77, if_neg c_88, if_neg c_102, if_pos c_114]; done)
                            | (rw [if_neg c_6, if_neg c_18, if_neg c_30, if_neg c_42, if_neg c_54, if_neg c_64, if_neg c_77, if_neg c_88, if_neg c_102, if_neg c_114, if_pos c_126]; done)
                            | (rw [if_neg c_6, if_neg c_18, if_neg c_30, if_neg c_42, if_neg c_54, if_neg c_64, if_neg c_77, if_neg c_88, if_neg c_102, if_neg c_114, if_neg c_126, if_pos c_140, ← hac]; done)
                            | (rw [if_neg c_6, if_neg c_18, if_neg c_30, if_neg c_42, if_neg c_54, if_neg c_64, if_neg c_77, if_neg c_88, if_neg c_102, if_neg c_114, if_neg c_126, if_neg c_140]; done)
                      · skip
                        refine w_aload_n dX8_count_129 rfl ?_
                        refine w_getf dX8_count_130 fl_X8_7 (by first | assumption | exact gs_at | (rw [gs_ne (by omega)]; (first | assumption | exact gs_at | (rw [gs_ne (by omega)]; (first | assumption | exact gs_at | (rw [gs_ne (by omega)]; (first | assumption | exact gs_at | (rw [gs_ne (by omega)]; (first | assumption | exact gs_at))))))))) rfl ?_
                        refine w_bipush (v := nI 11) dX8_count_133 (by decide) ?_
                        refine w_iaload dX8_count_135 (by first | assumption | exact gs_at | (rw [gs_ne (by omega)]; (first | assumption | exact gs_at | (rw [gs_ne (by omega)]; (first | assumption | exact gs_at | (rw [gs_ne (by omega)]; (first | assumption | exact gs_at | (rw [gs_ne (by omega)]; (first | assumption | exact gs_at))))))))) (by first | assumption | exact vp_in_nI (by omega) (by omega) | exact vp_in_nI (by assumption) (by omega)) ?_
                        rw [nI_clamp (by omega)]
                        first | rw [r3] | rw [r4] | rw [r5] | rw [r6] | rw [r0] | rw [r11] | rw [r12] | rw [r7 _ (by omega)] | rw [r9 _ (by omega)] | rw [r14 _ (by omega)] | rw [r20 _ (by omega)] | rw [r26 _ _ (by omega) (by omega)] | skip
                        refine w_iret dX8_count_136 rfl (Nat.le_of_ble_eq_true rfl) (Nat.le_of_ble_eq_true rfl) ?_
                        refine ⟨?_, rfl⟩
                        rw [cntV]
                        first
                          | (rw [if_pos c_6]; done)
                          | (rw [if_neg c_6, if_pos c_18]; done)
                          | (rw [if_neg c_6, if_neg c_18, if_pos c_30]; done)
                          | (rw [if_neg c_6, if_neg c_18, if_neg c_30, if_pos c_42]; done)
                          | (rw [if_neg c_6, if_neg c_18, if_neg c_30, if_neg c_42, if_pos c_54]; done)
                          | (rw [if_neg c_6, if_neg c_18, if_neg c_30, if_neg c_42, if_neg c_54, if_pos c_64]; done)
                          | (rw [if_neg c_6, if_neg c_18, if_neg c_30, if_neg c_42, if_neg c_54, if_neg c_64, if_pos c_77]; done)
                          | (rw [if_neg c_6, if_neg c_18, if_neg c_30, if_neg c_42, if_neg c_54, if_neg c_64, if_neg c_77, if_pos c_88]; done)
                          | (rw [if_neg c_6, if_neg c_18, if_neg c_30, if_neg c_42, if_neg c_54, if_neg c_64, if_neg c_77, if_neg c_88, if_pos c_102]; done)
                          | (rw [if_neg c_6, if_neg c_18, if_neg c_30, if_neg c_42, if_neg c_54, if_neg c_64, if_neg c_77, if_neg c_88, if_neg c_102, if_pos c_114]; done)
                          | (rw [if_neg c_6, if_neg c_18, if_neg c_30, if_neg c_42, if_neg c_54, if_neg c_64, if_neg c_77, if_neg c_88, if_neg c_102, if_neg c_114, if_pos c_126]; done)
                          | (rw [if_neg c_6, if_neg c_18, if_neg c_30, if_neg c_42, if_neg c_54, if_neg c_64, if_neg c_77, if_neg c_88, if_neg c_102, if_neg c_114, if_neg c_126, if_pos c_140, ← hac]; done)
                          | (rw [if_neg c_6, if_neg c_18, if_neg c_30, if_neg c_42, if_neg c_54, if_neg c_64, if_neg c_77, if_neg c_88, if_neg c_102, if_neg c_114, if_neg c_126, if_neg c_140]; done)
                    · skip
                      refine w_aload_n dX8_count_117 rfl ?_
                      refine w_iconst (v := nI 3) dX8_count_118 (by decide) ?_
                      refine wV1u dX8_count_119 lk_X8_325 rfl (by first | assumption | exact gs_at | (rw [gs_ne (by omega)]; (first | assumption | exact gs_at | (rw [gs_ne (by omega)]; (first | assumption | exact gs_at | (rw [gs_ne (by omega)]; (first | assumption | exact gs_at | (rw [gs_ne (by omega)]; (first | assumption | exact gs_at))))))))) rfl rfl (m_together (w := 3) hV2 hm2 hR hB (by decide)) (Nat.le_of_ble_eq_true rfl) (Nat.le_of_ble_eq_true rfl) (Nat.le_of_ble_eq_true rfl) (Nat.le_of_ble_eq_true rfl) ?_
                      refine w_iret dX8_count_122 rfl (Nat.le_of_ble_eq_true rfl) (Nat.le_of_ble_eq_true rfl) ?_
                      refine ⟨?_, rfl⟩
                      rw [cntV]
                      first
                        | (rw [if_pos c_6]; done)
                        | (rw [if_neg c_6, if_pos c_18]; done)
                        | (rw [if_neg c_6, if_neg c_18, if_pos c_30]; done)
                        | (rw [if_neg c_6, if_neg c_18, if_neg c_30, if_pos c_42]; done)
                        | (rw [if_neg c_6, if_neg c_18, if_neg c_30, if_neg c_42, if_pos c_54]; done)
                        | (rw [if_neg c_6, if_neg c_18, if_neg c_30, if_neg c_42, if_neg c_54, if_pos c_64]; done)
                        | (rw [if_neg c_6, if_neg c_18, if_neg c_30, if_neg c_42, if_neg c_54, if_neg c_64, if_pos c_77]; done)
                        | (rw [if_neg c_6, if_neg c_18, if_neg c_30, if_neg c_42, if_neg c_54, if_neg c_64, if_neg c_77, if_pos c_88]; done)
                        | (rw [if_neg c_6, if_neg c_18, if_neg c_30, if_neg c_42, if_neg c_54, if_neg c_64, if_neg c_77, if_neg c_88, if_pos c_102]; done)
                        | (rw [if_neg c_6, if_neg c_18, if_neg c_30, if_neg c_42, if_neg c_54, if_neg c_64, if_neg c_77, if_neg c_88, if_neg c_102, if_pos c_114]; done)
                        | (rw [if_neg c_6, if_neg c_18, if_neg c_30, if_neg c_42, if_neg c_54, if_neg c_64, if_neg c_77, if_neg c_88, if_neg c_102, if_neg c_114, if_pos c_126]; done)
                        | (rw [if_neg c_6, if_neg c_18, if_neg c_30, if_neg c_42, if_neg c_54, if_neg c_64, if_neg c_77, if_neg c_88, if_neg c_102, if_neg c_114, if_neg c_126, if_pos c_140, ← hac]; done)
                        | (rw [if_neg c_6, if_neg c_18, if_neg c_30, if_neg c_42, if_neg c_54, if_neg c_64, if_neg c_77, if_neg c_88, if_neg c_102, if_neg c_114, if_neg c_126, if_neg c_140]; done)
                  · skip
                    refine w_aload_n dX8_count_105 rfl ?_
                    refine w_iconst (v := nI 2) dX8_count_106 (by decide) ?_
                    refine wV1u dX8_count_107 lk_X8_325 rfl (by first | assumption | exact gs_at | (rw [gs_ne (by omega)]; (first | assumption | exact gs_at | (rw [gs_ne (by omega)]; (first | assumption | exact gs_at | (rw [gs_ne (by omega)]; (first | assumption | exact gs_at | (rw [gs_ne (by omega)]; (first | assumption | exact gs_at))))))))) rfl rfl (m_together (w := 2) hV2 hm2 hR hB (by decide)) (Nat.le_of_ble_eq_true rfl) (Nat.le_of_ble_eq_true rfl) (Nat.le_of_ble_eq_true rfl) (Nat.le_of_ble_eq_true rfl) ?_
                    refine w_iret dX8_count_110 rfl (Nat.le_of_ble_eq_true rfl) (Nat.le_of_ble_eq_true rfl) ?_
                    refine ⟨?_, rfl⟩
                    rw [cntV]
                    first
                      | (rw [if_pos c_6]; done)
                      | (rw [if_neg c_6, if_pos c_18]; done)
                      | (rw [if_neg c_6, if_neg c_18, if_pos c_30]; done)
                      | (rw [if_neg c_6, if_neg c_18, if_neg c_30, if_pos c_42]; done)
                      | (rw [if_neg c_6, if_neg c_18, if_neg c_30, if_neg c_42, if_pos c_54]; done)
                      | (rw [if_neg c_6, if_neg c_18, if_neg c_30, if_neg c_42, if_neg c_54, if_pos c_64]; done)
                      | (rw [if_neg c_6, if_neg c_18, if_neg c_30, if_neg c_42, if_neg c_54, if_neg c_64, if_pos c_77]; done)
                      | (rw [if_neg c_6, if_neg c_18, if_neg c_30, if_neg c_42, if_neg c_54, if_neg c_64, if_neg c_77, if_pos c_88]; done)
                      | (rw [if_neg c_6, if_neg c_18, if_neg c_30, if_neg c_42, if_neg c_54, if_neg c_64, if_neg c_77, if_neg c_88, if_pos c_102]; done)
                      | (rw [if_neg c_6, if_neg c_18, if_neg c_30, if_neg c_42, if_neg c_54, if_neg c_64, if_neg c_77, if_neg c_88, if_neg c_102, if_pos c_114]; done)
                      | (rw [if_neg c_6, if_neg c_18, if_neg c_30, if_neg c_42, if_neg c_54, if_neg c_64, if_neg c_77, if_neg c_88, if_neg c_102, if_neg c_114, if_pos c_126]; done)
                      | (rw [if_neg c_6, if_neg c_18, if_neg c_30, if_neg c_42, if_neg c_54, if_neg c_64, if_neg c_77, if_neg c_88, if_neg c_102, if_neg c_114, if_neg c_126, if_pos c_140, ← hac]; done)
                      | (rw [if_neg c_6, if_neg c_18, if_neg c_30, if_neg c_42, if_neg c_54, if_neg c_64, if_neg c_77, if_neg c_88, if_neg c_102, if_neg c_114, if_neg c_126, if_neg c_140]; done)
                · skip
                  refine w_aload_n dX8_count_91 rfl ?_
                  refine w_getf dX8_count_92 fl_X8_7 (by first | assumption | exact gs_at | (rw [gs_ne (by omega)]; (first | assumption | exact gs_at | (rw [gs_ne (by omega)]; (first | assumption | exact gs_at | (rw [gs_ne (by omega)]; (first | assumption | exact gs_at | (rw [gs_ne (by omega)]; (first | assumption | exact gs_at))))))))) rfl ?_
                  refine w_bipush (v := nI 6) dX8_count_95 (by decide) ?_
                  refine w_iaload dX8_count_97 (by first | assumption | exact gs_at | (rw [gs_ne (by omega)]; (first | assumption | exact gs_at | (rw [gs_ne (by omega)]; (first | assumption | exact gs_at | (rw [gs_ne (by omega)]; (first | assumption | exact gs_at | (rw [gs_ne (by omega)]; (first | assumption | exact gs_at))))))))) (by first | assumption | exact vp_in_nI (by omega) (by omega) | exact vp_in_nI (by assumption) (by omega)) ?_
                  rw [nI_clamp (by omega)]
                  first | rw [r3] | rw [r4] | rw [r5] | rw [r6] | rw [r0] | rw [r11] | rw [r12] | rw [r7 _ (by omega)] | rw [r9 _ (by omega)] | rw [r14 _ (by omega)] | rw [r20 _ (by omega)] | rw [r26 _ _ (by omega) (by omega)] | skip
                  refine w_iret dX8_count_98 rfl (Nat.le_of_ble_eq_true rfl) (Nat.le_of_ble_eq_true rfl) ?_
                  refine ⟨?_, rfl⟩
                  rw [cntV]
                  first
                    | (rw [if_pos c_6]; done)
                    | (rw [if_neg c_6, if_pos c_18]; done)
                    | (rw [if_neg c_6, if_neg c_18, if_pos c_30]; done)
                    | (rw [if_neg c_6, if_neg c_18, if_neg c_30, if_pos c_42]; done)
                    | (rw [if_neg c_6, if_neg c_18, if_neg c_30, if_neg c_42, if_pos c_54]; done)
                    | (rw [if_neg c_6, if_neg c_18, if_neg c_30, if_neg c_42, if_neg c_54, if_pos c_64]; done)
                    | (rw [if_neg c_6, if_neg c_18, if_neg c_30, if_neg c_42, if_neg c_54, if_neg c_64, if_pos c_77]; done)
                    | (rw [if_neg c_6, if_neg c_18, if_neg c_30, if_neg c_42, if_neg c_54, if_neg c_64, if_neg c_77, if_pos c_88]; done)
                    | (rw [if_neg c_6, if_neg c_18, if_neg c_30, if_neg c_42, if_neg c_54, if_neg c_64, if_neg c_77, if_neg c_88, if_pos c_102]; done)
                    | (rw [if_neg c_6, if_neg c_18, if_neg c_30, if_neg c_42, if_neg c_54, if_neg c_64, if_neg c_77, if_neg c_88, if_neg c_102, if_pos c_114]; done)
                    | (rw [if_neg c_6, if_neg c_18, if_neg c_30, if_neg c_42, if_neg c_54, if_neg c_64, if_neg c_77, if_neg c_88, if_neg c_102, if_neg c_114, if_pos c_126]; done)
                    | (rw [if_neg c_6, if_neg c_18, if_neg c_30, if_neg c_42, if_neg c_54, if_neg c_64, if_neg c_77, if_neg c_88, if_neg c_102, if_neg c_114, if_neg c_126, if_pos c_140, ← hac]; done)
                    | (rw [if_neg c_6, if_neg c_18, if_neg c_30, if_neg c_42, if_neg c_54, if_neg c_64, if_neg c_77, if_neg c_88, if_neg c_102, if_neg c_114, if_neg c_126, if_neg c_140]; done)
              · skip
                refine w_aload_n dX8_count_80 rfl ?_
                refine wV0u dX8_count_81 lk_X8_244 rfl (by first | assumption | exact gs_at | (rw [gs_ne (by omega)]; (first | assumption | exact gs_at | (rw [gs_ne (by omega)]; (first | assumption | exact gs_at | (rw [gs_ne (by omega)]; (first | assumption | exact gs_at | (rw [gs_ne (by omega)]; (first | assumption | exact gs_at))))))))) rfl rfl (m_soils hV2 hm2 hR hB) (Nat.le_of_ble_eq_true rfl) (Nat.le_of_ble_eq_true rfl) (Nat.le_of_ble_eq_true rfl) (Nat.le_of_ble_eq_true rfl) ?_
                refine w_iret dX8_count_84 rfl (Nat.le_of_ble_eq_true rfl) (Nat.le_of_ble_eq_true rfl) ?_
                refine ⟨?_, rfl⟩
                rw [cntV]
                first
                  | (rw [if_pos c_6]; done)
                  | (rw [if_neg c_6, if_pos c_18]; done)
                  | (rw [if_neg c_6, if_neg c_18, if_pos c_30]; done)
                  | (rw [if_neg c_6, if_neg c_18, if_neg c_30, if_pos c_42]; done)
                  | (rw [if_neg c_6, if_neg c_18, if_neg c_30, if_neg c_42, if_pos c_54]; done)
                  | (rw [if_neg c_6, if_neg c_18, if_neg c_30, if_neg c_42, if_neg c_54, if_pos c_64]; done)
                  | (rw [if_neg c_6, if_neg c_18, if_neg c_30, if_neg c_42, if_neg c_54, if_neg c_64, if_pos c_77]; done)
                  | (rw [if_neg c_6, if_neg c_18, if_neg c_30, if_neg c_42, if_neg c_54, if_neg c_64, if_neg c_77, if_pos c_88]; done)
                  | (rw [if_neg c_6, if_neg c_18, if_neg c_30, if_neg c_42, if_neg c_54, if_neg c_64, if_neg c_77, if_neg c_88, if_pos c_102]; done)
                  | (rw [if_neg c_6, if_neg c_18, if_neg c_30, if_neg c_42, if_neg c_54, if_neg c_64, if_neg c_77, if_neg c_88, if_neg c_102, if_pos c_114]; done)
                  | (rw [if_neg c_6, if_neg c_18, if_neg c_30, if_neg c_42, if_neg c_54, if_neg c_64, if_neg c_77, if_neg c_88, if_neg c_102, if_neg c_114, if_pos c_126]; done)
                  | (rw [if_neg c_6, if_neg c_18, if_neg c_30, if_neg c_42, if_neg c_54, if_neg c_64, if_neg c_77, if_neg c_88, if_neg c_102, if_neg c_114, if_neg c_126, if_pos c_140, ← hac]; done)
                  | (rw [if_neg c_6, if_neg c_18, if_neg c_30, if_neg c_42, if_neg c_54, if_neg c_64, if_neg c_77, if_neg c_88, if_neg c_102, if_neg c_114, if_neg c_126, if_neg c_140]; done)
            · skip
              refine w_aload_n dX8_count_67 rfl ?_
              refine w_getf dX8_count_68 fl_X8_7 (by first | assumption | exact gs_at | (rw [gs_ne (by omega)]; (first | assumption | exact gs_at | (rw [gs_ne (by omega)]; (first | assumption | exact gs_at | (rw [gs_ne (by omega)]; (first | assumption | exact gs_at | (rw [gs_ne (by omega)]; (first | assumption | exact gs_at))))))))) rfl ?_
              refine w_iconst (v := nI 5) dX8_count_71 (by decide) ?_
              refine w_iaload dX8_count_72 (by first | assumption | exact gs_at | (rw [gs_ne (by omega)]; (first | assumption | exact gs_at | (rw [gs_ne (by omega)]; (first | assumption | exact gs_at | (rw [gs_ne (by omega)]; (first | assumption | exact gs_at | (rw [gs_ne (by omega)]; (first | assumption | exact gs_at))))))))) (by first | assumption | exact vp_in_nI (by omega) (by omega) | exact vp_in_nI (by assumption) (by omega)) ?_
              rw [nI_clamp (by omega)]
              first | rw [r3] | rw [r4] | rw [r5] | rw [r6] | rw [r0] | rw [r11] | rw [r12] | rw [r7 _ (by omega)] | rw [r9 _ (by omega)] | rw [r14 _ (by omega)] | rw [r20 _ (by omega)] | rw [r26 _ _ (by omega) (by omega)] | skip
              refine w_iret dX8_count_73 rfl (Nat.le_of_ble_eq_true rfl) (Nat.le_of_ble_eq_true rfl) ?_
              refine ⟨?_, rfl⟩
              rw [cntV]
              first
                | (rw [if_pos c_6]; done)
                | (rw [if_neg c_6, if_pos c_18]; done)
                | (rw [if_neg c_6, if_neg c_18, if_pos c_30]; done)
                | (rw [if_neg c_6, if_neg c_18, if_neg c_30, if_pos c_42]; done)
                | (rw [if_neg c_6, if_neg c_18, if_neg c_30, if_neg c_42, if_pos c_54]; done)
                | (rw [if_neg c_6, if_neg c_18, if_neg c_30, if_neg c_42, if_neg c_54, if_pos c_64]; done)
                | (rw [if_neg c_6, if_neg c_18, if_neg c_30, if_neg c_42, if_neg c_54, if_neg c_64, if_pos c_77]; done)
                | (rw [if_neg c_6, if_neg c_18, if_neg c_30, if_neg c_42, if_neg c_54, if_neg c_64, if_neg c_77, if_pos c_88]; done)
                | (rw [if_neg c_6, if_neg c_18, if_neg c_30, if_neg c_42, if_neg c_54, if_neg c_64, if_neg c_77, if_neg c_88, if_pos c_102]; done)
                | (rw [if_neg c_6, if_neg c_18, if_neg c_30, if_neg c_42, if_neg c_54, if_neg c_64, if_neg c_77, if_neg c_88, if_neg c_102, if_pos c_114]; done)
                | (rw [if_neg c_6, if_neg c_18, if_neg c_30, if_neg c_42, if_neg c_54, if_neg c_64, if_neg c_77, if_neg c_88, if_neg c_102, if_neg c_114, if_pos c_126]; done)
                | (rw [if_neg c_6, if_neg c_18, if_neg c_30, if_neg c_42, if_neg c_54, if_neg c_64, if_neg c_77, if_neg c_88, if_neg c_102, if_neg c_114, if_neg c_126, if_pos c_140, ← hac]; done)
                | (rw [if_neg c_6, if_neg c_18, if_neg c_30, if_neg c_42, if_neg c_54, if_neg c_64, if_neg c_77, if_neg c_88, if_neg c_102, if_neg c_114, if_neg c_126, if_neg c_140]; done)
          · skip
            refine w_aload_n dX8_count_57 rfl ?_
            refine wV0u dX8_count_58 lk_X8_216 rfl (by first | assumption | exact gs_at | (rw [gs_ne (by omega)]; (first | assumption | exact gs_at | (rw [gs_ne (by omega)]; (first | assumption | exact gs_at | (rw [gs_ne (by omega)]; (first | assumption | exact gs_at | (rw [gs_ne (by omega)]; (first | assumption | exact gs_at))))))))) rfl rfl (m_there hV2 hm2 hR hB) (Nat.le_of_ble_eq_true rfl) (Nat.le_of_ble_eq_true rfl) (Nat.le_of_ble_eq_true rfl) (Nat.le_of_ble_eq_true rfl) ?_
            refine w_iret dX8_count_61 rfl (Nat.le_of_ble_eq_true rfl) (Nat.le_of_ble_eq_true rfl) ?_
            refine ⟨?_, rfl⟩
            rw [cntV]
            first
              | (rw [if_pos c_6]; done)
              | (rw [if_neg c_6, if_pos c_18]; done)
              | (rw [if_neg c_6, if_neg c_18, if_pos c_30]; done)
              | (rw [if_neg c_6, if_neg c_18, if_neg c_30, if_pos c_42]; done)
              | (rw [if_neg c_6, if_neg c_18, if_neg c_30, if_neg c_42, if_pos c_54]; done)
              | (rw [if_neg c_6, if_neg c_18, if_neg c_30, if_neg c_42, if_neg c_54, if_pos c_64]; done)
              | (rw [if_neg c_6, if_neg c_18, if_neg c_30, if_neg c_42, if_neg c_54, if_neg c_64, if_pos c_77]; done)
              | (rw [if_neg c_6, if_neg c_18, if_neg c_30, if_neg c_42, if_neg c_54, if_neg c_64, if_neg c_77, if_pos c_88]; done)
              | (rw [if_neg c_6, if_neg c_18, if_neg c_30, if_neg c_42, if_neg c_54, if_neg c_64, if_neg c_77, if_neg c_88, if_pos c_102]; done)
              | (rw [if_neg c_6, if_neg c_18, if_neg c_30, if_neg c_42, if_neg c_54, if_neg c_64, if_neg c_77, if_neg c_88, if_neg c_102, if_pos c_114]; done)
              | (rw [if_neg c_6, if_neg c_18, if_neg c_30, if_neg c_42, if_neg c_54, if_neg c_64, if_neg c_77, if_neg c_88, if_neg c_102, if_neg c_114, if_pos c_126]; done)
              | (rw [if_neg c_6, if_neg c_18, if_neg c_30, if_neg c_42, if_neg c_54, if_neg c_64, if_neg c_77, if_neg c_88, if_neg c_102, if_neg c_114, if_neg c_126, if_pos c_140, ← hac]; done)
              | (rw [if_neg c_6, if_neg c_18, if_neg c_30, if_neg c_42, if_neg c_54, if_neg c_64, if_neg c_77, if_neg c_88, if_neg c_102, if_neg c_114, if_neg c_126, if_neg c_140]; done)
        · skip
          refine w_aload_n dX8_count_45 rfl ?_
          refine w_getf dX8_count_46 fl_X8_7 (by first | assumption | exact gs_at | (rw [gs_ne (by omega)]; (first | assumption | exact gs_at | (rw [gs_ne (by omega)]; (first | assumption | exact gs_at | (rw [gs_ne (by omega)]; (first | assumption | exact gs_at | (rw [gs_ne (by omega)]; (first | assumption | exact gs_at))))))))) rfl ?_
          refine w_iconst (v := nI 4) dX8_count_49 (by decide) ?_
          refine w_iaload dX8_count_50 (by first | assumption | exact gs_at | (rw [gs_ne (by omega)]; (first | assumption | exact gs_at | (rw [gs_ne (by omega)]; (first | assumption | exact gs_at | (rw [gs_ne (by omega)]; (first | assumption | exact gs_at | (rw [gs_ne (by omega)]; (first | assumption | exact gs_at))))))))) (by first | assumption | exact vp_in_nI (by omega) (by omega) | exact vp_in_nI (by assumption) (by omega)) ?_
          rw [nI_clamp (by omega)]
          first | rw [r3] | rw [r4] | rw [r5] | rw [r6] | rw [r0] | rw [r11] | rw [r12] | rw [r7 _ (by omega)] | rw [r9 _ (by omega)] | rw [r14 _ (by omega)] | rw [r20 _ (by omega)] | rw [r26 _ _ (by omega) (by omega)] | skip
          refine w_iret dX8_count_51 rfl (Nat.le_of_ble_eq_true rfl) (Nat.le_of_ble_eq_true rfl) ?_
          refine ⟨?_, rfl⟩
          rw [cntV]
          first
            | (rw [if_pos c_6]; done)
            | (rw [if_neg c_6, if_pos c_18]; done)
            | (rw [if_neg c_6, if_neg c_18, if_pos c_30]; done)
            | (rw [if_neg c_6, if_neg c_18, if_neg c_30, if_pos c_42]; done)
            | (rw [if_neg c_6, if_neg c_18, if_neg c_30, if_neg c_42, if_pos c_54]; done)
            | (rw [if_neg c_6, if_neg c_18, if_neg c_30, if_neg c_42, if_neg c_54, if_pos c_64]; done)
            | (rw [if_neg c_6, if_neg c_18, if_neg c_30, if_neg c_42, if_neg c_54, if_neg c_64, if_pos c_77]; done)
            | (rw [if_neg c_6, if_neg c_18, if_neg c_30, if_neg c_42, if_neg c_54, if_neg c_64, if_neg c_77, if_pos c_88]; done)
            | (rw [if_neg c_6, if_neg c_18, if_neg c_30, if_neg c_42, if_neg c_54, if_neg c_64, if_neg c_77, if_neg c_88, if_pos c_102]; done)
            | (rw [if_neg c_6, if_neg c_18, if_neg c_30, if_neg c_42, if_neg c_54, if_neg c_64, if_neg c_77, if_neg c_88, if_neg c_102, if_pos c_114]; done)
            | (rw [if_neg c_6, if_neg c_18, if_neg c_30, if_neg c_42, if_neg c_54, if_neg c_64, if_neg c_77, if_neg c_88, if_neg c_102, if_neg c_114, if_pos c_126]; done)
            | (rw [if_neg c_6, if_neg c_18, if_neg c_30, if_neg c_42, if_neg c_54, if_neg c_64, if_neg c_77, if_neg c_88, if_neg c_102, if_neg c_114, if_neg c_126, if_pos c_140, ← hac]; done)
            | (rw [if_neg c_6, if_neg c_18, if_neg c_30, if_neg c_42, if_neg c_54, if_neg c_64, if_neg c_77, if_neg c_88, if_neg c_102, if_neg c_114, if_neg c_126, if_neg c_140]; done)
      · skip
        refine w_aload_n dX8_count_33 rfl ?_
        refine w_getf dX8_count_34 fl_X8_7 (by first | assumption | exact gs_at | (rw [gs_ne (by omega)]; (first | assumption | exact gs_at | (rw [gs_ne (by omega)]; (first | assumption | exact gs_at | (rw [gs_ne (by omega)]; (first | assumption | exact gs_at | (rw [gs_ne (by omega)]; (first | assumption | exact gs_at))))))))) rfl ?_
        refine w_iconst (v := nI 1) dX8_count_37 (by decide) ?_
        refine w_iaload dX8_count_38 (by first | assumption | exact gs_at | (rw [gs_ne (by omega)]; (first | assumption | exact gs_at | (rw [gs_ne (by omega)]; (first | assumption | exact gs_at | (rw [gs_ne (by omega)]; (first | assumption | exact gs_at | (rw [gs_ne (by omega)]; (first | assumption | exact gs_at))))))))) (by first | assumption | exact vp_in_nI (by omega) (by omega) | exact vp_in_nI (by assumption) (by omega)) ?_
        rw [nI_clamp (by omega)]
        rw [hln]
        refine w_iret dX8_count_39 rfl (Nat.le_of_ble_eq_true rfl) (Nat.le_of_ble_eq_true rfl) ?_
        refine ⟨?_, rfl⟩
        rw [cntV]
        first
          | (rw [if_pos c_6]; done)
          | (rw [if_neg c_6, if_pos c_18]; done)
          | (rw [if_neg c_6, if_neg c_18, if_pos c_30]; done)
          | (rw [if_neg c_6, if_neg c_18, if_neg c_30, if_pos c_42]; done)
          | (rw [if_neg c_6, if_neg c_18, if_neg c_30, if_neg c_42, if_pos c_54]; done)
          | (rw [if_neg c_6, if_neg c_18, if_neg c_30, if_neg c_42, if_neg c_54, if_pos c_64]; done)
          | (rw [if_neg c_6, if_neg c_18, if_neg c_30, if_neg c_42, if_neg c_54, if_neg c_64, if_pos c_77]; done)
          | (rw [if_neg c_6, if_neg c_18, if_neg c_30, if_neg c_42, if_neg c_54, if_neg c_64, if_neg c_77, if_pos c_88]; done)
          | (rw [if_neg c_6, if_neg c_18, if_neg c_30, if_neg c_42, if_neg c_54, if_neg c_64, if_neg c_77, if_neg c_88, if_pos c_102]; done)
          | (rw [if_neg c_6, if_neg c_18, if_neg c_30, if_neg c_42, if_neg c_54, if_neg c_64, if_neg c_77, if_neg c_88, if_neg c_102, if_pos c_114]; done)
          | (rw [if_neg c_6, if_neg c_18, if_neg c_30, if_neg c_42, if_neg c_54, if_neg c_64, if_neg c_77, if_neg c_88, if_neg c_102, if_neg c_114, if_pos c_126]; done)
          | (rw [if_neg c_6, if_neg c_18, if_neg c_30, if_neg c_42, if_neg c_54, if_neg c_64, if_neg c_77, if_neg c_88, if_neg c_102, if_neg c_114, if_neg c_126, if_pos c_140, ← hac]; done)
          | (rw [if_neg c_6, if_neg c_18, if_neg c_30, if_neg c_42, if_neg c_54, if_neg c_64, if_neg c_77, if_neg c_88, if_neg c_102, if_neg c_114, if_neg c_126, if_neg c_140]; done)
    · skip
      refine w_aload_n dX8_count_21 rfl ?_
      refine w_getf dX8_count_22 fl_X8_7 (by first | assumption | exact gs_at | (rw [gs_ne (by omega)]; (first | assumption | exact gs_at | (rw [gs_ne (by omega)]; (first | assumption | exact gs_at | (rw [gs_ne (by omega)]; (first | assumption | exact gs_at | (rw [gs_ne (by omega)]; (first | assumption | exact gs_at))))))))) rfl ?_
      refine w_iconst (v := nI 0) dX8_count_25 (by decide) ?_
      refine w_iaload dX8_count_26 (by first | assumption | exact gs_at | (rw [gs_ne (by omega)]; (first | assumption | exact gs_at | (rw [gs_ne (by omega)]; (first | assumption | exact gs_at | (rw [gs_ne (by omega)]; (first | assumption | exact gs_at | (rw [gs_ne (by omega)]; (first | assumption | exact gs_at))))))))) (by first | assumption | exact vp_in_nI (by omega) (by omega) | exact vp_in_nI (by assumption) (by omega)) ?_
      rw [nI_clamp (by omega)]
      first | rw [r3] | rw [r4] | rw [r5] | rw [r6] | rw [r0] | rw [r11] | rw [r12] | rw [r7 _ (by omega)] | rw [r9 _ (by omega)] | rw [r14 _ (by omega)] | rw [r20 _ (by omega)] | rw [r26 _ _ (by omega) (by omega)] | skip
      refine w_iret dX8_count_27 rfl (Nat.le_of_ble_eq_true rfl) (Nat.le_of_ble_eq_true rfl) ?_
      refine ⟨?_, rfl⟩
      rw [cntV]
      first
        | (rw [if_pos c_6]; done)
        | (rw [if_neg c_6, if_pos c_18]; done)
        | (rw [if_neg c_6, if_neg c_18, if_pos c_30]; done)
        | (rw [if_neg c_6, if_neg c_18, if_neg c_30, if_pos c_42]; done)
        | (rw [if_neg c_6, if_neg c_18, if_neg c_30, if_neg c_42, if_pos c_54]; done)
        | (rw [if_neg c_6, if_neg c_18, if_neg c_30, if_neg c_42, if_neg c_54, if_pos c_64]; done)
        | (rw [if_neg c_6, if_neg c_18, if_neg c_30, if_neg c_42, if_neg c_54, if_neg c_64, if_pos c_77]; done)
        | (rw [if_neg c_6, if_neg c_18, if_neg c_30, if_neg c_42, if_neg c_54, if_neg c_64, if_neg c_77, if_pos c_88]; done)
        | (rw [if_neg c_6, if_neg c_18, if_neg c_30, if_neg c_42, if_neg c_54, if_neg c_64, if_neg c_77, if_neg c_88, if_pos c_102]; done)
        | (rw [if_neg c_6, if_neg c_18, if_neg c_30, if_neg c_42, if_neg c_54, if_neg c_64, if_neg c_77, if_neg c_88, if_neg c_102, if_pos c_114]; done)
        | (rw [if_neg c_6, if_neg c_18, if_neg c_30, if_neg c_42, if_neg c_54, if_neg c_64, if_neg c_77, if_neg c_88, if_neg c_102, if_neg c_114, if_pos c_126]; done)
        | (rw [if_neg c_6, if_neg c_18, if_neg c_30, if_neg c_42, if_neg c_54, if_neg c_64, if_neg c_77, if_neg c_88, if_neg c_102, if_neg c_114, if_neg c_126, if_pos c_140, ← hac]; done)
        | (rw [if_neg c_6, if_neg c_18, if_neg c_30, if_neg c_42, if_neg c_54, if_neg c_64, if_neg c_77, if_neg c_88, if_neg c_102, if_neg c_114, if_neg c_126, if_neg c_140]; done)
  · skip
    refine w_aload_n dX8_count_9 rfl ?_
    refine w_getf dX8_count_10 fl_X8_7 (by first | assumption | exact gs_at | (rw [gs_ne (by omega)]; (first | assumption | exact gs_at | (rw [gs_ne (by omega)]; (first | assumption | exact gs_at | (rw [gs_ne (by omega)]; (first | assumption | exact gs_at | (rw [gs_ne (by omega)]; (first | assumption | exact gs_at))))))))) rfl ?_
    refine w_iconst (v := nI 3) dX8_count_13 (by decide) ?_
    refine w_iaload dX8_count_14 (by first | assumption | exact gs_at | (rw [gs_ne (by omega)]; (first | assumption | exact gs_at | (rw [gs_ne (by omega)]; (first | assumption | exact gs_at | (rw [gs_ne (by omega)]; (first | assumption | exact gs_at | (rw [gs_ne (by omega)]; (first | assumption | exact gs_at))))))))) (by first | assumption | exact vp_in_nI (by omega) (by omega) | exact vp_in_nI (by assumption) (by omega)) ?_
    rw [nI_clamp (by omega)]
    first | rw [r3] | rw [r4] | rw [r5] | rw [r6] | rw [r0] | rw [r11] | rw [r12] | rw [r7 _ (by omega)] | rw [r9 _ (by omega)] | rw [r14 _ (by omega)] | rw [r20 _ (by omega)] | rw [r26 _ _ (by omega) (by omega)] | skip
    refine w_iret dX8_count_15 rfl (Nat.le_of_ble_eq_true rfl) (Nat.le_of_ble_eq_true rfl) ?_
    refine ⟨?_, rfl⟩
    rw [cntV]
    first
      | (rw [if_pos c_6]; done)
      | (rw [if_neg c_6, if_pos c_18]; done)
      | (rw [if_neg c_6, if_neg c_18, if_pos c_30]; done)
      | (rw [if_neg c_6, if_neg c_18, if_neg c_30, if_pos c_42]; done)
      | (rw [if_neg c_6, if_neg c_18, if_neg c_30, if_neg c_42, if_pos c_54]; done)
      | (rw [if_neg c_6, if_neg c_18, if_neg c_30, if_neg c_42, if_neg c_54, if_pos c_64]; done)
      | (rw [if_neg c_6, if_neg c_18, if_neg c_30, if_neg c_42, if_neg c_54, if_neg c_64, if_pos c_77]; done)
      | (rw [if_neg c_6, if_neg c_18, if_neg c_30, if_neg c_42, if_neg c_54, if_neg c_64, if_neg c_77, if_pos c_88]; done)
      | (rw [if_neg c_6, if_neg c_18, if_neg c_30, if_neg c_42, if_neg c_54, if_neg c_64, if_neg c_77, if_neg c_88, if_pos c_102]; done)
      | (rw [if_neg c_6, if_neg c_18, if_neg c_30, if_neg c_42, if_neg c_54, if_neg c_64, if_neg c_77, if_neg c_88, if_neg c_102, if_pos c_114]; done)
      | (rw [if_neg c_6, if_neg c_18, if_neg c_30, if_neg c_42, if_neg c_54, if_neg c_64, if_neg c_77, if_neg c_88, if_neg c_102, if_neg c_114, if_pos c_126]; done)
      | (rw [if_neg c_6, if_neg c_18, if_neg c_30, if_neg c_42, if_neg c_54, if_neg c_64, if_neg c_77, if_neg c_88, if_neg c_102, if_neg c_114, if_neg c_126, if_pos c_140, ← hac]; done)
      | (rw [if_neg c_6, if_neg c_18, if_neg c_30, if_neg c_42, if_neg c_54, if_neg c_64, if_neg c_77, if_neg c_88, if_neg c_102, if_neg c_114, if_neg c_126, if_neg c_140]; done)
