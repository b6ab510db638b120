/-! the model: sums, sets, what is owed -/
def vlN (T : ST) (s : Nat) : Nat → Nat | 0 => 0 | k + 1 => vlN T s k + (if s / 2 ^ k % 2 = 1 then T 3 k else 0)
theorem vlN_le {T : ST} (hB : Bd T) (s : Nat) : ∀ k, vlN T s k ≤ k * 99
  | 0 => Nat.zero_le _
  | k + 1 => by have h1 := vlN_le hB s k; have h2 := hB.2.2.2.2.1 k; rw [vlN, Nat.succ_mul]; split <;> omega
theorem bitN_bit (p : Nat → Prop) [DecidablePred p] : ∀ n i, (bitN p n).testBit i = decide (i < n ∧ p i)
  | 0, i => by simp [bitN]
  | n + 1, i => by
    have ih := bitN_bit p n i
    by_cases h : p n
    · rw [bitN_t h, Nat.testBit_or, ih, Nat.one_mul, Nat.testBit_two_pow]
      by_cases e : n = i
      · subst e; simp [h]
      · by_cases h2 : i < n
        · simp [e, h2, show i < n + 1 by omega]
        · simp [e, h2, show ¬ i < n + 1 by omega]
    · rw [bitN_f h, ih]
      by_cases e : n = i
      · subst e; simp [h]
      · by_cases h2 : i < n
        · simp [h2, show i < n + 1 by omega]
        · simp [h2, show ¬ i < n + 1 by omega]
theorem bit_iff {s i : Nat} : (s / 2 ^ i % 2 = 1) ↔ s.testBit i = true := by
  rw [Nat.testBit_eq_decide_div_mod_eq]
  simp
theorem bitN_iff (p : Nat → Prop) [DecidablePred p] (n i : Nat) : (bitN p n / 2 ^ i % 2 = 1) ↔ (i < n ∧ p i) := by
  rw [bit_iff, bitN_bit]
  simp
theorem vl_set {T : ST} (p : Nat → Prop) [DecidablePred p] (n : Nat) : ∀ k, k ≤ n → vlN T (bitN p n) k = sumN k (fun i => if p i then T 3 i else 0)
  | 0, _ => rfl
  | k + 1, h => by
    rw [vlN, sumN, vl_set p n k (by omega)]
    by_cases hp : p k
    · rw [if_pos ((bitN_iff p n k).mpr ⟨h, hp⟩), if_pos hp]
    · rw [if_neg (fun h2 => hp ((bitN_iff p n k).mp h2).2), if_neg hp]
theorem sumN_add (f g : Nat → Nat) : ∀ n, sumN n (fun i => f i + g i) = sumN n f + sumN n g
  | 0 => rfl
  | n + 1 => by rw [sumN, sumN, sumN, sumN_add f g n]; omega
theorem sumN_cg {f g : Nat → Nat} : ∀ n, (∀ i, i < n → f i = g i) → sumN n f = sumN n g
  | 0, _ => rfl
  | n + 1, h => by rw [sumN, sumN, sumN_cg n (fun i hi => h i (by omega)), h n (by omega)]
theorem due_eq (T : ST) : vlN T (bitN (mis T) (T 12 0)) (T 12 0) + (sumN 6 (T 7) - T 12 4) + sumN (T 12 0) (worN T) = dueN T := by
  rw [vl_set (mis T) (T 12 0) (T 12 0) (Nat.le_refl _)]
  unfold dueN
  have h := sumN_add (fun i => if mis T i then T 3 i else 0) (worN T) (T 12 0)
  have h2 : sumN (T 12 0) (oweN T) = sumN (T 12 0) (fun i => (if mis T i then T 3 i else 0) + worN T i) := rfl
  omega
theorem ml_missing {E : EV} {Q : OC → AH → Prop} {V : Nat} {th hi ac tp ba en at_ fa dp io hm_ we sh so : Int32} {mm : Nat → Int32} {T : ST} {sd : Int32} {G : AH}  (hV : G.1 V = some (mO V th hi ac tp ba en at_ fa dp io hm_ we sh so)) (hm : G.1 (V + 1) = some (aI 750 mm)) (hR : MoR mm T sd) (hB : Bd T)  (hQ : Q (.inl (some (.int (nI (bitN (mis T) (T 12 0)))))) G) : ∀ (k i : Nat), T 12 0 - i < k → i ≤ T 12 0 → Wp E 3 0 0 kX8_missingOnes Q G (0, 0) 4 [.ref V, .int (nI (bitN (mis T) i)), .int (nI i)] [] := by
  obtain ⟨r0, r3, r4, r5, r6, r7, r9, r11, r12, r14, r20, r26, rL⟩ := id hR
  obtain ⟨b0, b1, b2_, b3, b4, b5, b6, b7, b8, b9, b10, b11, b12, b13, b14, b15, b16, b17, b18, b19⟩ := id hB
  intro k
  induction k with
  | zero => intro i h; exact absurd h (by omega)
  | succ k ih =>
    intro i hk hi
    refine w_iload_n dX8_missingOnes_4 rfl ?_
    refine w_aload_n dX8_missingOnes_5 rfl ?_
    refine w_getf dX8_missingOnes_6 fl_X8_7 (by first | assumption | exact gs_at | (rw [gs_ne (by omega)]; (first | assumption | exact gs_at | (rw [gs_ne (by omega)]; (first | assumption | exact gs_at | (rw [gs_ne (by omega)]; (first | assumption | exact gs_at | (rw [gs_ne (by omega)]; (first | assumption | exact gs_at))))))))) rfl ?_
    refine w_iconst (v := nI 3) dX8_missingOnes_9 (by decide) ?_
    refine w_iaload dX8_missingOnes_10 (by first | assumption | exact gs_at | (rw [gs_ne (by omega)]; (first | assumption | exact gs_at | (rw [gs_ne (by omega)]; (first | assumption | exact gs_at | (rw [gs_ne (by omega)]; (first | assumption | exact gs_at | (rw [gs_ne (by omega)]; (first | assumption | exact gs_at))))))))) (by first | assumption | exact vp_in_nI (by omega) (by omega) | exact vp_in_nI (by assumption) (by omega)) ?_
    rw [nI_clamp (by omega)]
    first | rw [r3] | rw [r4] | rw [r5] | rw [r6] | rw [r0] | rw [r11] | rw [r12] | rw [r7 _ (by omega)] | rw [r9 _ (by omega)] | rw [r14 _ (by omega)] | rw [r20 _ (by omega)] | rw [r26 _ _ (by omega) (by omega)] | skip
    refine w_icmp_ge (tgt := 38) dX8_missingOnes_11 (by decide) (fun c_11 => ?_) (fun c_11 => ?_)
    · try simp (disch := omega) only [nI_b2, Decidable.not_not, nI_ltI, nI_leI, nI_eq, ge_iff_le, gt_iff_lt, ne_eq, Nat.not_lt, Nat.not_le] at c_11
      refine w_iload_n dX8_missingOnes_38 rfl ?_
      refine w_iret dX8_missingOnes_39 rfl (Nat.le_of_ble_eq_true rfl) (Nat.le_of_ble_eq_true rfl) ?_
      have e : i = T 12 0 := by omega
      subst e
      exact hQ
    · try simp (disch := omega) only [nI_b2, Decidable.not_not, nI_ltI, nI_leI, nI_eq, ge_iff_le, gt_iff_lt, ne_eq, Nat.not_lt, Nat.not_le] at c_11
      refine w_iload_n dX8_missingOnes_14 rfl ?_
      refine w_aload_n dX8_missingOnes_15 rfl ?_
      refine w_iload_n dX8_missingOnes_16 rfl ?_
      refine wV1u dX8_missingOnes_17 lk_X8_237 rfl (by first | assumption | exact gs_at | (rw [gs_ne (by omega)]; (first | assumption | exact gs_at | (rw [gs_ne (by omega)]; (first | assumption | exact gs_at | (rw [gs_ne (by omega)]; (first | assumption | exact gs_at | (rw [gs_ne (by omega)]; (first | assumption | exact gs_at))))))))) rfl rfl (m_isMissing hV hm hR hB (by omega)) (Nat.le_of_ble_eq_true rfl) (Nat.le_of_ble_eq_true rfl) (Nat.le_of_ble_eq_true rfl) (Nat.le_of_ble_eq_true rfl) ?_
      refine w_ifN_eq (tgt := 29) dX8_missingOnes_20 (by decide) (fun c_20 => ?_) (fun c_20 => ?_)
      · try simp (disch := omega) only [nI_b2, Decidable.not_not, nI_ltI, nI_leI, nI_eq, ge_iff_le, gt_iff_lt, ne_eq, Nat.not_lt, Nat.not_le] at c_20
        refine w_iconst (v := nI 0) dX8_missingOnes_29 (by decide) ?_
        first | refine w_iorN dX8_missingOnes_30 ?_ | refine w_ior dX8_missingOnes_30 ?_
        refine w_istore_1 dX8_missingOnes_31 rfl ?_
        first | refine w_iinc_2 dX8_missingOnes_32 (nI_inc _) rfl ?_ | refine w_iinc_2 dX8_missingOnes_32 rfl rfl ?_
        refine w_goto (tgt := 4) dX8_missingOnes_35 (by decide) ?_
        have hN := ih (i + 1) (by omega) (by omega)
        first
          | (rw [bitN_t (by omega)] at hN; exact hN)
          | (rw [bitN_f (by omega)] at hN; rw [Nat.or_zero]; exact hN)
      · try simp (disch := omega) only [nI_b2, Decidable.not_not, nI_ltI, nI_leI, nI_eq, ge_iff_le, gt_iff_lt, ne_eq, Nat.not_lt, Nat.not_le] at c_20
        refine w_iconst (v := nI 1) dX8_missingOnes_23 (by decide) ?_
        refine w_iload_n dX8_missingOnes_24 rfl ?_
        refine w_ishlN (by omega) (p2_lt (by omega)) dX8_missingOnes_25 ?_
        refine w_goto (tgt := 30) dX8_missingOnes_26 (by decide) ?_
        first | refine w_iorN dX8_missingOnes_30 ?_ | refine w_ior dX8_missingOnes_30 ?_
        refine w_istore_1 dX8_missingOnes_31 rfl ?_
        first | refine w_iinc_2 dX8_missingOnes_32 (nI_inc _) rfl ?_ | refine w_iinc_2 dX8_missingOnes_32 rfl rfl ?_
        refine w_goto (tgt := 4) dX8_missingOnes_35 (by decide) ?_
        have hN := ih (i + 1) (by omega) (by omega)
        first
          | (rw [bitN_t (by omega)] at hN; exact hN)
          | (rw [bitN_f (by omega)] at hN; rw [Nat.or_zero]; exact hN)
theorem m_missingOnes {E : EV} {V : Nat} {th hi ac tp ba en at_ fa dp io hm_ we sh so : Int32} {mm : Nat → Int32} {T : ST} {sd : Int32} {G : AH}  (hV : G.1 V = some (mO V th hi ac tp ba en at_ fa dp io hm_ we sh so)) (hm : G.1 (V + 1) = some (aI 750 mm)) (hR : MoR mm T sd) (hB : Bd T)  : Cu E 3 kX8_missingOnes [.ref V] G (.int (nI (bitN (mis T) (T 12 0)))) G := by
  obtain ⟨r0, r3, r4, r5, r6, r7, r9, r11, r12, r14, r20, r26, rL⟩ := id hR
  obtain ⟨b0, b1, b2_, b3, b4, b5, b6, b7, b8, b9, b10, b11, b12, b13, b14, b15, b16, b17, b18, b19⟩ := id hB
  refine Ct.intro rfl (by decide) [.ref V, .float 0, .float 0] (by simp [Value.category]) (Nat.le_of_ble_eq_true rfl) rfl ?_
  refine w_iconst (v := nI 0) dX8_missingOnes_0 (by decide) ?_
  refine w_istore_1 dX8_missingOnes_1 rfl ?_
  refine w_iconst (v := nI 0) dX8_missingOnes_2 (by decide) ?_
  refine w_istore_2 dX8_missingOnes_3 rfl ?_
  exact ml_missing hV hm hR hB ⟨rfl, rfl⟩ (T 12 0 + 1) 0 (by omega) (by omega)
theorem ml_itemsOf {E : EV} {Q : OC → AH → Prop} {V : Nat} {th hi ac tp ba en at_ fa dp io hm_ we sh so : Int32} {mm : Nat → Int32} {T : ST} {sd : Int32} {G : AH} {r w : Nat} (hV : G.1 V = some (mO V th hi ac tp ba en at_ fa dp io hm_ we sh so)) (hm : G.1 (V + 1) = some (aI 750 mm)) (hR : MoR mm T sd) (hB : Bd T) (hw : w < 7) (hw2 : ∀ i, T w i < 2 ^ 30) (hr : r < 2 ^ 30) (hQ : Q (.inl (some (.int (nI (bitN (fun j => T w j = r) (T 12 0)))))) G) : ∀ (k i : Nat), T 12 0 - i < k → i ≤ T 12 0 → Wp E 2 0 0 kX8_itemsOf Q G (0, 0) 5 [.ref V, .int (nI r), .int (nI w), .int (nI (bitN (fun j => T w j = r) i)), .int (nI i)] [] := by
  obtain ⟨r0, r3, r4, r5, r6, r7, r9, r11, r12, r14, r20, r26, rL⟩ := id hR
  obtain ⟨b0, b1, b2_, b3, b4, b5, b6, b7, b8, b9, b10, b11, b12, b13, b14, b15, b16, b17, b18, b19⟩ := id hB
  intro k
  induction k with
  | zero => intro i h; exact absurd h (by omega)
  | succ k ih =>
    intro i hk hi
    refine w_iload dX8_itemsOf_5 rfl ?_
    refine w_aload_n dX8_itemsOf_7 rfl ?_
    refine w_getf dX8_itemsOf_8 fl_X8_7 (by first | assumption | exact gs_at | (rw [gs_ne (by omega)]; (first | assumption | exact gs_at | (rw [gs_ne (by omega)]; (first | assumption | exact gs_at | (rw [gs_ne (by omega)]; (first | assumption | exact gs_at | (rw [gs_ne (by omega)]; (first | assumption | exact gs_at))))))))) rfl ?_
    refine w_iconst (v := nI 3) dX8_itemsOf_11 (by decide) ?_
    refine w_iaload dX8_itemsOf_12 (by first | assumption | exact gs_at | (rw [gs_ne (by omega)]; (first | assumption | exact gs_at | (rw [gs_ne (by omega)]; (first | assumption | exact gs_at | (rw [gs_ne (by omega)]; (first | assumption | exact gs_at | (rw [gs_ne (by omega)]; (first | assumption | exact gs_at))))))))) (by first | assumption | exact vp_in_nI (by omega) (by omega) | exact vp_in_nI (by assumption) (by omega)) ?_
    rw [nI_clamp (by omega)]
    first | rw [r3] | rw [r4] | rw [r5] | rw [r6] | rw [r0] | rw [r11] | rw [r12] | rw [r7 _ (by omega)] | rw [r9 _ (by omega)] | rw [r14 _ (by omega)] | rw [r20 _ (by omega)] | rw [r26 _ _ (by omega) (by omega)] | skip
    refine w_icmp_ge (tgt := 44) dX8_itemsOf_13 (by decide) (fun c_13 => ?_) (fun c_13 => ?_)
    · try simp (disch := omega) only [nI_b2, Decidable.not_not, nI_ltI, nI_leI, nI_eq, ge_iff_le, gt_iff_lt, ne_eq, Nat.not_lt, Nat.not_le] at c_13
      refine w_iload_n dX8_itemsOf_44 rfl ?_
      refine w_iret dX8_itemsOf_45 rfl (Nat.le_of_ble_eq_true rfl) (Nat.le_of_ble_eq_true rfl) ?_
      have e : i = T 12 0 := by omega
      subst e
      exact hQ
    · try simp (disch := omega) only [nI_b2, Decidable.not_not, nI_ltI, nI_leI, nI_eq, ge_iff_le, gt_iff_lt, ne_eq, Nat.not_lt, Nat.not_le] at c_13
      refine w_iload_n dX8_itemsOf_16 rfl ?_
      refine w_aload_n dX8_itemsOf_17 rfl ?_
      refine w_iload dX8_itemsOf_18 rfl ?_
      refine w_iload_n dX8_itemsOf_20 rfl ?_
      refine wV2u dX8_itemsOf_21 lk_X8_46 rfl (by first | assumption | exact gs_at | (rw [gs_ne (by omega)]; (first | assumption | exact gs_at | (rw [gs_ne (by omega)]; (first | assumption | exact gs_at | (rw [gs_ne (by omega)]; (first | assumption | exact gs_at | (rw [gs_ne (by omega)]; (first | assumption | exact gs_at))))))))) rfl rfl (m_of hV hm hR hB (by omega) hw) (Nat.le_of_ble_eq_true rfl) (Nat.le_of_ble_eq_true rfl) (Nat.le_of_ble_eq_true rfl) (Nat.le_of_ble_eq_true rfl) ?_
      have hw3 := hw2 i
      refine w_iload_n dX8_itemsOf_24 rfl ?_
      refine w_icmp_ne (tgt := 35) dX8_itemsOf_25 (by decide) (fun c_25 => ?_) (fun c_25 => ?_)
      · try simp (disch := omega) only [nI_b2, Decidable.not_not, nI_ltI, nI_leI, nI_eq, ge_iff_le, gt_iff_lt, ne_eq, Nat.not_lt, Nat.not_le] at c_25
        refine w_iconst (v := nI 0) dX8_itemsOf_35 (by decide) ?_
        first | refine w_iorN dX8_itemsOf_36 ?_ | refine w_ior dX8_itemsOf_36 ?_
        refine w_istore_3 dX8_itemsOf_37 rfl ?_
        first | refine w_iinc_4 dX8_itemsOf_38 (nI_inc _) rfl ?_ | refine w_iinc_4 dX8_itemsOf_38 rfl rfl ?_
        refine w_goto (tgt := 5) dX8_itemsOf_41 (by decide) ?_
        have hN := ih (i + 1) (by omega) (by omega)
        first
          | (rw [bitN_t (by omega)] at hN; exact hN)
          | (rw [bitN_f (by omega)] at hN; rw [Nat.or_zero]; exact hN)
      · try simp (disch := omega) only [nI_b2, Decidable.not_not, nI_ltI, nI_leI, nI_eq, ge_iff_le, gt_iff_lt, ne_eq, Nat.not_lt, Nat.not_le] at c_25
        refine w_iconst (v := nI 1) dX8_itemsOf_28 (by decide) ?_
        refine w_iload dX8_itemsOf_29 rfl ?_
        refine w_ishlN (by omega) (p2_lt (by omega)) dX8_itemsOf_31 ?_
        refine w_goto (tgt := 36) dX8_itemsOf_32 (by decide) ?_
        first | refine w_iorN dX8_itemsOf_36 ?_ | refine w_ior dX8_itemsOf_36 ?_
        refine w_istore_3 dX8_itemsOf_37 rfl ?_
        first | refine w_iinc_4 dX8_itemsOf_38 (nI_inc _) rfl ?_ | refine w_iinc_4 dX8_itemsOf_38 rfl rfl ?_
        refine w_goto (tgt := 5) dX8_itemsOf_41 (by decide) ?_
        have hN := ih (i + 1) (by omega) (by omega)
        first
          | (rw [bitN_t (by omega)] at hN; exact hN)
          | (rw [bitN_f (by omega)] at hN; rw [Nat.or_zero]; exact hN)
theorem m_itemsOf {E : EV} {V : Nat} {th hi ac tp ba en at_ fa dp io hm_ we sh so : Int32} {mm : Nat → Int32} {T : ST} {sd : Int32} {G : AH} {r w : Nat} (hV : G.1 V = some (mO V th hi ac tp ba en at_ fa dp io hm_ we sh so)) (hm : G.1 (V + 1) = some (aI 750 mm)) (hR : MoR mm T sd) (hB : Bd T) (hw : w < 7) (hw2 : ∀ i, T w i < 2 ^ 30) (hr : r < 2 ^ 30) : Cu E 2 kX8_itemsOf [.ref V, .int (nI r), .int (nI w)] G (.int (nI (bitN (fun j => T w j = r) (T 12 0)))) G := by
  obtain ⟨r0, r3, r4, r5, r6, r7, r9, r11, r12, r14, r20, r26, rL⟩ := id hR
  obtain ⟨b0, b1, b2_, b3, b4, b5, b6, b7, b8, b9, b10, b11, b12, b13, b14, b15, b16, b17, b18, b19⟩ := id hB
  refine Ct.intro rfl (by decide) [.ref V, .int (nI r), .int (nI w), .float 0, .float 0] (by simp [Value.category]) (Nat.le_of_ble_eq_true rfl) rfl ?_
  refine w_iconst (v := nI 0) dX8_itemsOf_0 (by decide) ?_
  refine w_istore_3 dX8_itemsOf_1 rfl ?_
  refine w_iconst (v := nI 0) dX8_itemsOf_2 (by decide) ?_
  refine w_istore_4 dX8_itemsOf_3 rfl ?_
  exact ml_itemsOf hV hm hR hB hw hw2 hr ⟨rfl, rfl⟩ (T 12 0 + 1) 0 (by omega) (by omega)
theorem ml_valueOf {E : EV} {Q : OC → AH → Prop} {V : Nat} {th hi ac tp ba en at_ fa dp io hm_ we sh so : Int32} {mm : Nat → Int32} {T : ST} {sd : Int32} {G : AH} {s : Nat} (hV : G.1 V = some (mO V th hi ac tp ba en at_ fa dp io hm_ we sh so)) (hm : G.1 (V + 1) = some (aI 750 mm)) (hR : MoR mm T sd) (hB : Bd T) (hs : s < 2 ^ 31) (hQ : Q (.inl (some (.int (nI (vlN T s (T 12 0)))))) G) : ∀ (k i : Nat), T 12 0 - i < k → i ≤ T 12 0 → Wp E 2 0 0 kX8_valueOf Q G (0, 0) 4 [.ref V, .int (nI s), .int (nI (vlN T s i)), .int (nI i)] [] := by
  obtain ⟨r0, r3, r4, r5, r6, r7, r9, r11, r12, r14, r20, r26, rL⟩ := id hR
  obtain ⟨b0, b1, b2_, b3, b4, b5, b6, b7, b8, b9, b10, b11, b12, b13, b14, b15, b16, b17, b18, b19⟩ := id hB
  intro k
  induction k with
  | zero => intro i h; exact absurd h (by omega)
  | succ k ih =>
    intro i hk hi
    refine w_iload_n dX8_valueOf_4 rfl ?_
    refine w_aload_n dX8_valueOf_5 rfl ?_
    refine w_getf dX8_valueOf_6 fl_X8_7 (by first | assumption | exact gs_at | (rw [gs_ne (by omega)]; (first | assumption | exact gs_at | (rw [gs_ne (by omega)]; (first | assumption | exact gs_at | (rw [gs_ne (by omega)]; (first | assumption | exact gs_at | (rw [gs_ne (by omega)]; (first | assumption | exact gs_at))))))))) rfl ?_
    refine w_iconst (v := nI 3) dX8_valueOf_9 (by decide) ?_
    refine w_iaload dX8_valueOf_10 (by first | assumption | exact gs_at | (rw [gs_ne (by omega)]; (first | assumption | exact gs_at | (rw [gs_ne (by omega)]; (first | assumption | exact gs_at | (rw [gs_ne (by omega)]; (first | assumption | exact gs_at | (rw [gs_ne (by omega)]; (first | assumption | exact gs_at))))))))) (by first | assumption | exact vp_in_nI (by omega) (by omega) | exact vp_in_nI (by assumption) (by omega)) ?_
    rw [nI_clamp (by omega)]
    first | rw [r3] | rw [r4] | rw [r5] | rw [r6] | rw [r0] | rw [r11] | rw [r12] | rw [r7 _ (by omega)] | rw [r9 _ (by omega)] | rw [r14 _ (by omega)] | rw [r20 _ (by omega)] | rw [r26 _ _ (by omega) (by omega)] | skip
    refine w_icmp_ge (tgt := 41) dX8_valueOf_11 (by decide) (fun c_11 => ?_) (fun c_11 => ?_)
    · try simp (disch := omega) only [nI_b2, Decidable.not_not, nI_ltI, nI_leI, nI_eq, ge_iff_le, gt_iff_lt, ne_eq, Nat.not_lt, Nat.not_le] at c_11
      refine w_iload_n dX8_valueOf_41 rfl ?_
      refine w_iret dX8_valueOf_42 rfl (Nat.le_of_ble_eq_true rfl) (Nat.le_of_ble_eq_true rfl) ?_
      have e : i = T 12 0 := by omega
      subst e
      exact hQ
    · try simp (disch := omega) only [nI_b2, Decidable.not_not, nI_ltI, nI_leI, nI_eq, ge_iff_le, gt_iff_lt, ne_eq, Nat.not_lt, Nat.not_le] at c_11
      refine w_iload_n dX8_valueOf_14 rfl ?_
      refine w_iload_n dX8_valueOf_15 rfl ?_
      refine w_iload_n dX8_valueOf_16 rfl ?_
      refine wS2u dX8_valueOf_17 lk_X8_240 rfl (m_isOf hs (by omega)) (Nat.le_of_ble_eq_true rfl) (Nat.le_of_ble_eq_true rfl) (Nat.le_of_ble_eq_true rfl) (Nat.le_of_ble_eq_true rfl) ?_
      refine w_ifN_eq (tgt := 32) dX8_valueOf_20 (by decide) (fun c_20 => ?_) (fun c_20 => ?_)
      · try simp (disch := omega) only [nI_b2, Decidable.not_not, nI_ltI, nI_leI, nI_eq, ge_iff_le, gt_iff_lt, ne_eq, Nat.not_lt, Nat.not_le] at c_20
        refine w_iconst (v := nI 0) dX8_valueOf_32 (by decide) ?_
        first | refine w_iaddN dX8_valueOf_33 ?_ | refine w_iadd dX8_valueOf_33 ?_
        refine w_istore_2 dX8_valueOf_34 rfl ?_
        first | refine w_iinc_3 dX8_valueOf_35 (nI_inc _) rfl ?_ | refine w_iinc_3 dX8_valueOf_35 rfl rfl ?_
        refine w_goto (tgt := 4) dX8_valueOf_38 (by decide) ?_
        have hN := ih (i + 1) (by omega) (by omega)
        rw [vlN] at hN
        first
          | (rw [if_pos c_20] at hN; exact hN)
          | (rw [if_neg c_20] at hN; exact hN)
      · try simp (disch := omega) only [nI_b2, Decidable.not_not, nI_ltI, nI_leI, nI_eq, ge_iff_le, gt_iff_lt, ne_eq, Nat.not_lt, Nat.not_le] at c_20
        refine w_aload_n dX8_valueOf_23 rfl ?_
        refine w_iload_n dX8_valueOf_24 rfl ?_
        refine w_iconst (v := nI 3) dX8_valueOf_25 (by decide) ?_
        refine wV2u dX8_valueOf_26 lk_X8_46 rfl (by first | assumption | exact gs_at | (rw [gs_ne (by omega)]; (first | assumption | exact gs_at | (rw [gs_ne (by omega)]; (first | assumption | exact gs_at | (rw [gs_ne (by omega)]; (first | assumption | exact gs_at | (rw [gs_ne (by omega)]; (first | assumption | exact gs_at))))))))) rfl rfl (m_of (w := 3) hV hm hR hB (by omega) (by decide)) (Nat.le_of_ble_eq_true rfl) (Nat.le_of_ble_eq_true rfl) (Nat.le_of_ble_eq_true rfl) (Nat.le_of_ble_eq_true rfl) ?_
        refine w_goto (tgt := 33) dX8_valueOf_29 (by decide) ?_
        first | refine w_iaddN dX8_valueOf_33 ?_ | refine w_iadd dX8_valueOf_33 ?_
        refine w_istore_2 dX8_valueOf_34 rfl ?_
        first | refine w_iinc_3 dX8_valueOf_35 (nI_inc _) rfl ?_ | refine w_iinc_3 dX8_valueOf_35 rfl rfl ?_
        refine w_goto (tgt := 4) dX8_valueOf_38 (by decide) ?_
        have hN := ih (i + 1) (by omega) (by omega)
        rw [vlN] at hN
        first
          | (rw [if_pos c_20] at hN; exact hN)
          | (rw [if_neg c_20] at hN; exact hN)
theorem m_valueOf {E : EV} {V : Nat} {th hi ac tp ba en at_ fa dp io hm_ we sh so : Int32} {mm : Nat → Int32} {T : ST} {sd : Int32} {G : AH} {s : Nat} (hV : G.1 V = some (mO V th hi ac tp ba en at_ fa dp io hm_ we sh so)) (hm : G.1 (V + 1) = some (aI 750 mm)) (hR : MoR mm T sd) (hB : Bd T) (hs : s < 2 ^ 31) : Cu E 2 kX8_valueOf [.ref V, .int (nI s)] G (.int (nI (vlN T s (T 12 0)))) G := by
  obtain ⟨r0, r3, r4, r5, r6, r7, r9, r11, r12, r14, r20, r26, rL⟩ := id hR
  obtain ⟨b0, b1, b2_, b3, b4, b5, b6, b7, b8, b9, b10, b11, b12, b13, b14, b15, b16, b17, b18, b19⟩ := id hB
  refine Ct.intro rfl (by decide) [.ref V, .int (nI s), .float 0, .float 0] (by simp [Value.category]) (Nat.le_of_ble_eq_true rfl) rfl ?_
  refine w_iconst (v := nI 0) dX8_valueOf_0 (by decide) ?_
  refine w_istore_2 dX8_valueOf_1 rfl ?_
  refine w_iconst (v := nI 0) dX8_valueOf_2 (by decide) ?_
  refine w_istore_3 dX8_valueOf_3 rfl ?_
  exact ml_valueOf hV hm hR hB hs ⟨rfl, rfl⟩ (T 12 0 + 1) 0 (by omega) (by omega)
theorem ml_work1 {E : EV} {Q : OC → AH → Prop} {V : Nat} {th hi ac tp ba en at_ fa dp io hm_ we sh so : Int32} {mm : Nat → Int32} {T : ST} {sd : Int32} {G : AH}  (hV : G.1 V = some (mO V th hi ac tp ba en at_ fa dp io hm_ we sh so)) (hm : G.1 (V + 1) = some (aI 750 mm)) (hR : MoR mm T sd) (hB : Bd T) (kk : Wp E 4 0 0 kX8_workOfAll Q G (0, 0) 28 [.ref V, .int (nI (sumN (T 12 0) (wrkN T))), .int (nI (T 12 0))] []) : ∀ (k i : Nat), T 12 0 - i < k → i ≤ T 12 0 → Wp E 4 0 0 kX8_workOfAll Q G (0, 0) 4 [.ref V, .int (nI (sumN i (wrkN T))), .int (nI i)] [] := by
  obtain ⟨r0, r3, r4, r5, r6, r7, r9, r11, r12, r14, r20, r26, rL⟩ := id hR
  obtain ⟨b0, b1, b2_, b3, b4, b5, b6, b7, b8, b9, b10, b11, b12, b13, b14, b15, b16, b17, b18, b19⟩ := id hB
  intro k
  induction k with
  | zero => intro i h; exact absurd h (by omega)
  | succ k ih =>
    intro i hk hi
    refine w_iload_n dX8_workOfAll_4 rfl ?_
    refine w_aload_n dX8_workOfAll_5 rfl ?_
    refine w_getf dX8_workOfAll_6 fl_X8_7 (by first | assumption | exact gs_at | (rw [gs_ne (by omega)]; (first | assumption | exact gs_at | (rw [gs_ne (by omega)]; (first | assumption | exact gs_at | (rw [gs_ne (by omega)]; (first | assumption | exact gs_at | (rw [gs_ne (by omega)]; (first | assumption | exact gs_at))))))))) rfl ?_
    refine w_iconst (v := nI 3) dX8_workOfAll_9 (by decide) ?_
    refine w_iaload dX8_workOfAll_10 (by first | assumption | exact gs_at | (rw [gs_ne (by omega)]; (first | assumption | exact gs_at | (rw [gs_ne (by omega)]; (first | assumption | exact gs_at | (rw [gs_ne (by omega)]; (first | assumption | exact gs_at | (rw [gs_ne (by omega)]; (first | assumption | exact gs_at))))))))) (by first | assumption | exact vp_in_nI (by omega) (by omega) | exact vp_in_nI (by assumption) (by omega)) ?_
    rw [nI_clamp (by omega)]
    first | rw [r3] | rw [r4] | rw [r5] | rw [r6] | rw [r0] | rw [r11] | rw [r12] | rw [r7 _ (by omega)] | rw [r9 _ (by omega)] | rw [r14 _ (by omega)] | rw [r20 _ (by omega)] | rw [r26 _ _ (by omega) (by omega)] | skip
    refine w_icmp_ge (tgt := 28) dX8_workOfAll_11 (by decide) (fun c_11 => ?_) (fun c_11 => ?_)
    · try simp (disch := omega) only [nI_b2, Decidable.not_not, nI_ltI, nI_leI, nI_eq, ge_iff_le, gt_iff_lt, ne_eq, Nat.not_lt, Nat.not_le] at c_11
      have e : i = T 12 0 := by omega
      subst e
      exact kk
    · try simp (disch := omega) only [nI_b2, Decidable.not_not, nI_ltI, nI_leI, nI_eq, ge_iff_le, gt_iff_lt, ne_eq, Nat.not_lt, Nat.not_le] at c_11
      refine w_iload_n dX8_workOfAll_14 rfl ?_
      refine w_aload_n dX8_workOfAll_15 rfl ?_
      refine w_iload_n dX8_workOfAll_16 rfl ?_
      refine wV1u dX8_workOfAll_17 lk_X8_234 rfl (by first | assumption | exact gs_at | (rw [gs_ne (by omega)]; (first | assumption | exact gs_at | (rw [gs_ne (by omega)]; (first | assumption | exact gs_at | (rw [gs_ne (by omega)]; (first | assumption | exact gs_at | (rw [gs_ne (by omega)]; (first | assumption | exact gs_at))))))))) rfl rfl (m_workOf hV hm hR hB (by omega)) (Nat.le_of_ble_eq_true rfl) (Nat.le_of_ble_eq_true rfl) (Nat.le_of_ble_eq_true rfl) (Nat.le_of_ble_eq_true rfl) ?_
      first | refine w_iaddN dX8_workOfAll_20 ?_ | refine w_iadd dX8_workOfAll_20 ?_
      refine w_istore_1 dX8_workOfAll_21 rfl ?_
      first | refine w_iinc_2 dX8_workOfAll_22 (nI_inc _) rfl ?_ | refine w_iinc_2 dX8_workOfAll_22 rfl rfl ?_
      refine w_goto (tgt := 4) dX8_workOfAll_25 (by decide) ?_
      exact ih (i + 1) (by omega) (by omega)
theorem ml_work2 {E : EV} {Q : OC → AH → Prop} {V : Nat} {th hi ac tp ba en at_ fa dp io hm_ we sh so : Int32} {mm : Nat → Int32} {T : ST} {sd : Int32} {G : AH} {s : Nat} (hV : G.1 V = some (mO V th hi ac tp ba en at_ fa dp io hm_ we sh so)) (hm : G.1 (V + 1) = some (aI 750 mm)) (hR : MoR mm T sd) (hB : Bd T) (hQ : Q (.inl (some (.int (nI (s + sumN 6 (fun r => (T 7 r + 10 - 1) / 10)))))) G) : ∀ (k i : Nat), 6 - i < k → i ≤ 6 → Wp E 4 0 0 kX8_workOfAll Q G (0, 0) 30 [.ref V, .int (nI (s + sumN i (fun r => (T 7 r + 10 - 1) / 10))), .int (nI i)] [] := by
  obtain ⟨r0, r3, r4, r5, r6, r7, r9, r11, r12, r14, r20, r26, rL⟩ := id hR
  obtain ⟨b0, b1, b2_, b3, b4, b5, b6, b7, b8, b9, b10, b11, b12, b13, b14, b15, b16, b17, b18, b19⟩ := id hB
  intro k
  induction k with
  | zero => intro i h; exact absurd h (by omega)
  | succ k ih =>
    intro i hk hi
    refine w_iload_n dX8_workOfAll_30 rfl ?_
    refine w_bipush (v := nI 6) dX8_workOfAll_31 (by decide) ?_
    refine w_icmp_ge (tgt := 59) dX8_workOfAll_33 (by decide) (fun c_33 => ?_) (fun c_33 => ?_)
    · try simp (disch := omega) only [nI_b2, Decidable.not_not, nI_ltI, nI_leI, nI_eq, ge_iff_le, gt_iff_lt, ne_eq, Nat.not_lt, Nat.not_le] at c_33
      refine w_iload_n dX8_workOfAll_59 rfl ?_
      refine w_iret dX8_workOfAll_60 rfl (Nat.le_of_ble_eq_true rfl) (Nat.le_of_ble_eq_true rfl) ?_
      have e : i = 6 := by omega
      subst e
      exact hQ
    · try simp (disch := omega) only [nI_b2, Decidable.not_not, nI_ltI, nI_leI, nI_eq, ge_iff_le, gt_iff_lt, ne_eq, Nat.not_lt, Nat.not_le] at c_33
      refine w_iload_n dX8_workOfAll_36 rfl ?_
      refine w_aload_n dX8_workOfAll_37 rfl ?_
      refine w_getf dX8_workOfAll_38 fl_X8_7 (by first | assumption | exact gs_at | (rw [gs_ne (by omega)]; (first | assumption | exact gs_at | (rw [gs_ne (by omega)]; (first | assumption | exact gs_at | (rw [gs_ne (by omega)]; (first | assumption | exact gs_at | (rw [gs_ne (by omega)]; (first | assumption | exact gs_at))))))))) rfl ?_
      refine w_bipush (v := nI 14) dX8_workOfAll_41 (by decide) ?_
      refine w_iload_n dX8_workOfAll_43 rfl ?_
      first | refine w_iaddN dX8_workOfAll_44 ?_ | refine w_iadd dX8_workOfAll_44 ?_
      refine w_iaload dX8_workOfAll_45 (by first | assumption | exact gs_at | (rw [gs_ne (by omega)]; (first | assumption | exact gs_at | (rw [gs_ne (by omega)]; (first | assumption | exact gs_at | (rw [gs_ne (by omega)]; (first | assumption | exact gs_at | (rw [gs_ne (by omega)]; (first | assumption | exact gs_at))))))))) (by first | assumption | exact vp_in_nI (by omega) (by omega) | exact vp_in_nI (by assumption) (by omega)) ?_
      rw [nI_clamp (by omega)]
      first | rw [r3] | rw [r4] | rw [r5] | rw [r6] | rw [r0] | rw [r11] | rw [r12] | rw [r7 _ (by omega)] | rw [r9 _ (by omega)] | rw [r14 _ (by omega)] | rw [r20 _ (by omega)] | rw [r26 _ _ (by omega) (by omega)] | skip
      have hb8 := b8 i
      refine w_bipush (v := nI 10) dX8_workOfAll_46 (by decide) ?_
      refine wS2u dX8_workOfAll_48 lk_X8_231 rfl (m_rounded (by omega) (by decide) (by decide)) (Nat.le_of_ble_eq_true rfl) (Nat.le_of_ble_eq_true rfl) (Nat.le_of_ble_eq_true rfl) (Nat.le_of_ble_eq_true rfl) ?_
      first | refine w_iaddN dX8_workOfAll_51 ?_ | refine w_iadd dX8_workOfAll_51 ?_
      refine w_istore_1 dX8_workOfAll_52 rfl ?_
      first | refine w_iinc_2 dX8_workOfAll_53 (nI_inc _) rfl ?_ | refine w_iinc_2 dX8_workOfAll_53 rfl rfl ?_
      refine w_goto (tgt := 30) dX8_workOfAll_56 (by decide) ?_
      have hN := ih (i + 1) (by omega) (by omega)
      rw [sumN, ← Nat.add_assoc] at hN
      exact hN
theorem m_workOfAll {E : EV} {V : Nat} {th hi ac tp ba en at_ fa dp io hm_ we sh so : Int32} {mm : Nat → Int32} {T : ST} {sd : Int32} {G : AH}  (hV : G.1 V = some (mO V th hi ac tp ba en at_ fa dp io hm_ we sh so)) (hm : G.1 (V + 1) = some (aI 750 mm)) (hR : MoR mm T sd) (hB : Bd T)  : Cu E 4 kX8_workOfAll [.ref V] G (.int (nI (wkAll T))) G := by
  obtain ⟨r0, r3, r4, r5, r6, r7, r9, r11, r12, r14, r20, r26, rL⟩ := id hR
  obtain ⟨b0, b1, b2_, b3, b4, b5, b6, b7, b8, b9, b10, b11, b12, b13, b14, b15, b16, b17, b18, b19⟩ := id hB
  refine Ct.intro rfl (by decide) [.ref V, .float 0, .float 0] (by simp [Value.category]) (Nat.le_of_ble_eq_true rfl) rfl ?_
  refine w_iconst (v := nI 0) dX8_workOfAll_0 (by decide) ?_
  refine w_istore_1 dX8_workOfAll_1 rfl ?_
  refine w_iconst (v := nI 0) dX8_workOfAll_2 (by decide) ?_
  refine w_istore_2 dX8_workOfAll_3 rfl ?_
  refine ml_work1 hV hm hR hB ?_ (T 12 0 + 1) 0 (by omega) (by omega)
  refine w_iconst (v := nI 0) dX8_workOfAll_28 (by decide) ?_
  refine w_istore_2 dX8_workOfAll_29 rfl ?_
  exact ml_work2 hV hm hR hB ⟨rfl, rfl⟩ 7 0 (by omega) (by omega)
theorem m_needs {E : EV} {V : Nat} {th hi ac tp ba en at_ fa dp io hm_ we sh so : Int32} {mm : Nat → Int32} {T : ST} {sd : Int32} {G : AH} {s : Nat} (hV : G.1 V = some (mO V th hi ac tp ba en at_ fa dp io hm_ we sh so)) (hm : G.1 (V + 1) = some (aI 750 mm)) (hR : MoR mm T sd) (hB : Bd T) (hs : s < 2) : Cu E 5 kX8_needs [.ref V, .int (nI s)] G (.int (needV T s)) G := by
  obtain ⟨r0, r3, r4, r5, r6, r7, r9, r11, r12, r14, r20, r26, rL⟩ := id hR
  obtain ⟨b0, b1, b2_, b3, b4, b5, b6, b7, b8, b9, b10, b11, b12, b13, b14, b15, b16, b17, b18, b19⟩ := id hB
  refine Ct.intro rfl (by decide) [.ref V, .int (nI s), .float 0] (by simp [Value.category]) (Nat.le_of_ble_eq_true rfl) rfl ?_
  refine w_aload_n dX8_needs_0 rfl ?_
  refine wV0u dX8_needs_1 lk_X8_286 rfl (by first | assumption | exact gs_at | (rw [gs_ne (by omega)]; (first | assumption | exact gs_at | (rw [gs_ne (by omega)]; (first | assumption | exact gs_at | (rw [gs_ne (by omega)]; (first | assumption | exact gs_at | (rw [gs_ne (by omega)]; (first | assumption | exact gs_at))))))))) rfl rfl (m_workOfAll hV hm hR hB) (Nat.le_of_ble_eq_true rfl) (Nat.le_of_ble_eq_true rfl) (Nat.le_of_ble_eq_true rfl) (Nat.le_of_ble_eq_true rfl) ?_
  refine w_istore_2 dX8_needs_4 rfl ?_
  have hwk := wkAll_le hB
  refine w_iload_n dX8_needs_5 rfl ?_
  refine w_ifN_ne (tgt := 13) dX8_needs_6 (by decide) (fun c_6 => ?_) (fun c_6 => ?_)
  · try simp (disch := omega) only [nI_b2, Decidable.not_not, nI_ltI, nI_leI, nI_eq, ge_iff_le, gt_iff_lt, ne_eq, Nat.not_lt, Nat.not_le] at c_6
    refine w_aload_n dX8_needs_13 rfl ?_
    refine w_getf dX8_needs_14 fl_X8_7 (by first | assumption | exact gs_at | (rw [gs_ne (by omega)]; (first | assumption | exact gs_at | (rw [gs_ne (by omega)]; (first | assumption | exact gs_at | (rw [gs_ne (by omega)]; (first | assumption | exact gs_at | (rw [gs_ne (by omega)]; (first | assumption | exact gs_at))))))))) rfl ?_
    refine w_bipush (v := nI 7) dX8_needs_17 (by decide) ?_
    refine w_iload_n dX8_needs_19 rfl ?_
    first | refine w_iaddN dX8_needs_20 ?_ | refine w_iadd dX8_needs_20 ?_
    refine w_iaload dX8_needs_21 (by first | assumption | exact gs_at | (rw [gs_ne (by omega)]; (first | assumption | exact gs_at | (rw [gs_ne (by omega)]; (first | assumption | exact gs_at | (rw [gs_ne (by omega)]; (first | assumption | exact gs_at | (rw [gs_ne (by omega)]; (first | assumption | exact gs_at))))))))) (by first | assumption | exact vp_in_nI (by omega) (by omega) | exact vp_in_nI (by assumption) (by omega)) ?_
    rw [nI_clamp (by omega)]
    first | rw [r3] | rw [r4] | rw [r5] | rw [r6] | rw [r0] | rw [r11] | rw [r12] | rw [r7 _ (by omega)] | rw [r9 _ (by omega)] | rw [r14 _ (by omega)] | rw [r20 _ (by omega)] | rw [r26 _ _ (by omega) (by omega)] | skip
    have hb10 := b10 s
    refine w_ifN_ne (tgt := 29) dX8_needs_22 (by decide) (fun c_22 => ?_) (fun c_22 => ?_)
    · try simp (disch := omega) only [nI_b2, Decidable.not_not, nI_ltI, nI_leI, nI_eq, ge_iff_le, gt_iff_lt, ne_eq, Nat.not_lt, Nat.not_le] at c_22
      refine w_iload_n dX8_needs_29 rfl ?_
      refine w_aload_n dX8_needs_30 rfl ?_
      refine w_getf dX8_needs_31 fl_X8_7 (by first | assumption | exact gs_at | (rw [gs_ne (by omega)]; (first | assumption | exact gs_at | (rw [gs_ne (by omega)]; (first | assumption | exact gs_at | (rw [gs_ne (by omega)]; (first | assumption | exact gs_at | (rw [gs_ne (by omega)]; (first | assumption | exact gs_at))))))))) rfl ?_
      refine w_bipush (v := nI 7) dX8_needs_34 (by decide) ?_
      refine w_iload_n dX8_needs_36 rfl ?_
      first | refine w_iaddN dX8_needs_37 ?_ | refine w_iadd dX8_needs_37 ?_
      refine w_iaload dX8_needs_38 (by first | assumption | exact gs_at | (rw [gs_ne (by omega)]; (first | assumption | exact gs_at | (rw [gs_ne (by omega)]; (first | assumption | exact gs_at | (rw [gs_ne (by omega)]; (first | assumption | exact gs_at | (rw [gs_ne (by omega)]; (first | assumption | exact gs_at))))))))) (by first | assumption | exact vp_in_nI (by omega) (by omega) | exact vp_in_nI (by assumption) (by omega)) ?_
      rw [nI_clamp (by omega)]
      first | rw [r3] | rw [r4] | rw [r5] | rw [r6] | rw [r0] | rw [r11] | rw [r12] | rw [r7 _ (by omega)] | rw [r9 _ (by omega)] | rw [r14 _ (by omega)] | rw [r20 _ (by omega)] | rw [r26 _ _ (by omega) (by omega)] | skip
      refine wS2u dX8_needs_39 lk_X8_231 rfl (m_rounded (by omega) (by omega) (by omega)) (Nat.le_of_ble_eq_true rfl) (Nat.le_of_ble_eq_true rfl) (Nat.le_of_ble_eq_true rfl) (Nat.le_of_ble_eq_true rfl) ?_
      refine w_iret dX8_needs_42 rfl (Nat.le_of_ble_eq_true rfl) (Nat.le_of_ble_eq_true rfl) ?_
      refine ⟨?_, rfl⟩
      first
        | (rw [needV, if_pos (by omega)]; done)
        | (rw [needV, if_neg (by omega), if_pos (by omega)]; done)
        | (rw [needV, if_neg (by omega), if_neg (by omega)]; done)
    · try simp (disch := omega) only [nI_b2, Decidable.not_not, nI_ltI, nI_leI, nI_eq, ge_iff_le, gt_iff_lt, ne_eq, Nat.not_lt, Nat.not_le] at c_22
      refine w_iconst (v := (-1)) dX8_needs_25 (by decide) ?_
      refine w_goto (tgt := 42) dX8_needs_26 (by decide) ?_
      refine w_iret dX8_needs_42 rfl (Nat.le_of_ble_eq_true rfl) (Nat.le_of_ble_eq_true rfl) ?_
      refine ⟨?_, rfl⟩
      first
        | (rw [needV, if_pos (by omega)]; done)
        | (rw [needV, if_neg (by omega), if_pos (by omega)]; done)
        | (rw [needV, if_neg (by omega), if_neg (by omega)]; done)
  · try simp (disch := omega) only [nI_b2, Decidable.not_not, nI_ltI, nI_leI, nI_eq, ge_iff_le, gt_iff_lt, ne_eq, Nat.not_lt, Nat.not_le] at c_6
    refine w_iconst (v := nI 0) dX8_needs_9 (by decide) ?_
    refine w_goto (tgt := 42) dX8_needs_10 (by decide) ?_
    refine w_iret dX8_needs_42 rfl (Nat.le_of_ble_eq_true rfl) (Nat.le_of_ble_eq_true rfl) ?_
    refine ⟨?_, rfl⟩
    first
      | (rw [needV, if_pos (by omega)]; done)
      | (rw [needV, if_neg (by omega), if_pos (by omega)]; done)
      | (rw [needV, if_neg (by omega), if_neg (by omega)]; done)
theorem m_latest {E : EV} {V : Nat} {th hi ac tp ba en at_ fa dp io hm_ we sh so : Int32} {mm : Nat → Int32} {T : ST} {sd : Int32} {G : AH} {s : Nat} (hV : G.1 V = some (mO V th hi ac tp ba en at_ fa dp io hm_ we sh so)) (hm : G.1 (V + 1) = some (aI 750 mm)) (hR : MoR mm T sd) (hB : Bd T) (hs : s < 2) : Cu E 6 kX8_latest [.ref V, .int (nI s)] G (.int (lateV T s)) G := by
  obtain ⟨r0, r3, r4, r5, r6, r7, r9, r11, r12, r14, r20, r26, rL⟩ := id hR
  obtain ⟨b0, b1, b2_, b3, b4, b5, b6, b7, b8, b9, b10, b11, b12, b13, b14, b15, b16, b17, b18, b19⟩ := id hB
  refine Ct.intro rfl (by decide) [.ref V, .int (nI s), .float 0, .float 0] (by simp [Value.category]) (Nat.le_of_ble_eq_true rfl) rfl ?_
  refine w_sipush (v := nI 182) dX8_latest_0 (by decide) ?_
  refine w_aload_n dX8_latest_3 rfl ?_
  refine w_getf dX8_latest_4 fl_X8_7 (by first | assumption | exact gs_at | (rw [gs_ne (by omega)]; (first | assumption | exact gs_at | (rw [gs_ne (by omega)]; (first | assumption | exact gs_at | (rw [gs_ne (by omega)]; (first | assumption | exact gs_at | (rw [gs_ne (by omega)]; (first | assumption | exact gs_at))))))))) rfl ?_
  refine w_iconst (v := nI 4) dX8_latest_7 (by decide) ?_
  refine w_iaload dX8_latest_8 (by first | assumption | exact gs_at | (rw [gs_ne (by omega)]; (first | assumption | exact gs_at | (rw [gs_ne (by omega)]; (first | assumption | exact gs_at | (rw [gs_ne (by omega)]; (first | assumption | exact gs_at | (rw [gs_ne (by omega)]; (first | assumption | exact gs_at))))))))) (by first | assumption | exact vp_in_nI (by omega) (by omega) | exact vp_in_nI (by assumption) (by omega)) ?_
  rw [nI_clamp (by omega)]
  first | rw [r3] | rw [r4] | rw [r5] | rw [r6] | rw [r0] | rw [r11] | rw [r12] | rw [r7 _ (by omega)] | rw [r9 _ (by omega)] | rw [r14 _ (by omega)] | rw [r20 _ (by omega)] | rw [r26 _ _ (by omega) (by omega)] | skip
  refine w_sipush (v := nI 182) dX8_latest_9 (by decide) ?_
  first | refine w_iremN (by omega) (by omega) (by omega) dX8_latest_12 ?_ | refine w_irem dX8_latest_12 (by decide) ?_
  refine w_isubN (by omega) dX8_latest_13 ?_
  refine w_istore_2 dX8_latest_14 rfl ?_
  refine w_aload_n dX8_latest_15 rfl ?_
  refine w_iload_n dX8_latest_16 rfl ?_
  refine wV1u dX8_latest_17 lk_X8_289 rfl (by first | assumption | exact gs_at | (rw [gs_ne (by omega)]; (first | assumption | exact gs_at | (rw [gs_ne (by omega)]; (first | assumption | exact gs_at | (rw [gs_ne (by omega)]; (first | assumption | exact gs_at | (rw [gs_ne (by omega)]; (first | assumption | exact gs_at))))))))) rfl rfl (m_needs hV hm hR hB hs) (Nat.le_of_ble_eq_true rfl) (Nat.le_of_ble_eq_true rfl) (Nat.le_of_ble_eq_true rfl) (Nat.le_of_ble_eq_true rfl) ?_
  refine w_istore_3 dX8_latest_20 rfl ?_
  refine w_iload_n dX8_latest_21 rfl ?_
  refine w_iconst (v := (-1)) dX8_latest_22 (by decide) ?_
  refine w_icmp_eq (tgt := 31) dX8_latest_23 (by decide) (fun c_23 => ?_) (fun c_23 => ?_)
  · skip
    refine w_iconst (v := (-1)) dX8_latest_31 (by decide) ?_
    refine w_goto (tgt := 38) dX8_latest_32 (by decide) ?_
    refine w_iret dX8_latest_38 rfl (Nat.le_of_ble_eq_true rfl) (Nat.le_of_ble_eq_true rfl) ?_
    refine ⟨?_, rfl⟩
    first
      | (rw [lateV, if_pos c_23]; done)
      | (rw [lateV, if_neg c_23, if_pos (show needV T s ≤ nI (leftN T) from c_28)]; rfl)
      | (rw [lateV, if_neg c_23, if_neg (show ¬ needV T s ≤ nI (leftN T) from c_28)]; done)
  · skip
    refine w_iload_n dX8_latest_26 rfl ?_
    refine w_iload_n dX8_latest_27 rfl ?_
    refine w_icmp_le (tgt := 35) dX8_latest_28 (by decide) (fun c_28 => ?_) (fun c_28 => ?_)
    · skip
      refine w_iload_n dX8_latest_35 rfl ?_
      refine w_iload_n dX8_latest_36 rfl ?_
      refine w_isub dX8_latest_37 ?_
      refine w_iret dX8_latest_38 rfl (Nat.le_of_ble_eq_true rfl) (Nat.le_of_ble_eq_true rfl) ?_
      refine ⟨?_, rfl⟩
      first
        | (rw [lateV, if_pos c_23]; done)
        | (rw [lateV, if_neg c_23, if_pos (show needV T s ≤ nI (leftN T) from c_28)]; rfl)
        | (rw [lateV, if_neg c_23, if_neg (show ¬ needV T s ≤ nI (leftN T) from c_28)]; done)
    · skip
      refine w_iconst (v := (-1)) dX8_latest_31 (by decide) ?_
      refine w_goto (tgt := 38) dX8_latest_32 (by decide) ?_
      refine w_iret dX8_latest_38 rfl (Nat.le_of_ble_eq_true rfl) (Nat.le_of_ble_eq_true rfl) ?_
      refine ⟨?_, rfl⟩
      first
        | (rw [lateV, if_pos c_23]; done)
        | (rw [lateV, if_neg c_23, if_pos (show needV T s ≤ nI (leftN T) from c_28)]; rfl)
        | (rw [lateV, if_neg c_23, if_neg (show ¬ needV T s ≤ nI (leftN T) from c_28)]; done)
theorem ml_owed {E : EV} {Q : OC → AH → Prop} {V : Nat} {th hi ac tp ba en at_ fa dp io hm_ we sh so : Int32} {mm : Nat → Int32} {T : ST} {sd : Int32} {G : AH} {s : Nat} (hV : G.1 V = some (mO V th hi ac tp ba en at_ fa dp io hm_ we sh so)) (hm : G.1 (V + 1) = some (aI 750 mm)) (hR : MoR mm T sd) (hB : Bd T) (hQ : Q (.inl (some (.int (nI (s + sumN (T 12 0) (worN T)))))) G) : ∀ (k i : Nat), T 12 0 - i < k → i ≤ T 12 0 → Wp E 4 0 0 kX8_owedNow Q G (0, 0) 28 [.ref V, .int (nI (s + sumN i (worN T))), .int (nI i)] [] := by
  obtain ⟨r0, r3, r4, r5, r6, r7, r9, r11, r12, r14, r20, r26, rL⟩ := id hR
  obtain ⟨b0, b1, b2_, b3, b4, b5, b6, b7, b8, b9, b10, b11, b12, b13, b14, b15, b16, b17, b18, b19⟩ := id hB
  intro k
  induction k with
  | zero => intro i h; exact absurd h (by omega)
  | succ k ih =>
    intro i hk hi
    refine w_iload_n dX8_owedNow_28 rfl ?_
    refine w_aload_n dX8_owedNow_29 rfl ?_
    refine w_getf dX8_owedNow_30 fl_X8_7 (by first | assumption | exact gs_at | (rw [gs_ne (by omega)]; (first | assumption | exact gs_at | (rw [gs_ne (by omega)]; (first | assumption | exact gs_at | (rw [gs_ne (by omega)]; (first | assumption | exact gs_at | (rw [gs_ne (by omega)]; (first | assumption | exact gs_at))))))))) rfl ?_
    refine w_iconst (v := nI 3) dX8_owedNow_33 (by decide) ?_
    refine w_iaload dX8_owedNow_34 (by first | assumption | exact gs_at | (rw [gs_ne (by omega)]; (first | assumption | exact gs_at | (rw [gs_ne (by omega)]; (first | assumption | exact gs_at | (rw [gs_ne (by omega)]; (first | assumption | exact gs_at | (rw [gs_ne (by omega)]; (first | assumption | exact gs_at))))))))) (by first | assumption | exact vp_in_nI (by omega) (by omega) | exact vp_in_nI (by assumption) (by omega)) ?_
    rw [nI_clamp (by omega)]
    first | rw [r3] | rw [r4] | rw [r5] | rw [r6] | rw [r0] | rw [r11] | rw [r12] | rw [r7 _ (by omega)] | rw [r9 _ (by omega)] | rw [r14 _ (by omega)] | rw [r20 _ (by omega)] | rw [r26 _ _ (by omega) (by omega)] | skip
    refine w_icmp_ge (tgt := 52) dX8_owedNow_35 (by decide) (fun c_35 => ?_) (fun c_35 => ?_)
    · try simp (disch := omega) only [nI_b2, Decidable.not_not, nI_ltI, nI_leI, nI_eq, ge_iff_le, gt_iff_lt, ne_eq, Nat.not_lt, Nat.not_le] at c_35
      refine w_iload_n dX8_owedNow_52 rfl ?_
      refine w_iret dX8_owedNow_53 rfl (Nat.le_of_ble_eq_true rfl) (Nat.le_of_ble_eq_true rfl) ?_
      have e : i = T 12 0 := by omega
      subst e
      exact hQ
    · try simp (disch := omega) only [nI_b2, Decidable.not_not, nI_ltI, nI_leI, nI_eq, ge_iff_le, gt_iff_lt, ne_eq, Nat.not_lt, Nat.not_le] at c_35
      refine w_iload_n dX8_owedNow_38 rfl ?_
      refine w_aload_n dX8_owedNow_39 rfl ?_
      refine w_iload_n dX8_owedNow_40 rfl ?_
      refine wV1u dX8_owedNow_41 lk_X8_228 rfl (by first | assumption | exact gs_at | (rw [gs_ne (by omega)]; (first | assumption | exact gs_at | (rw [gs_ne (by omega)]; (first | assumption | exact gs_at | (rw [gs_ne (by omega)]; (first | assumption | exact gs_at | (rw [gs_ne (by omega)]; (first | assumption | exact gs_at))))))))) rfl rfl (m_worseBy hV hm hR hB (by omega)) (Nat.le_of_ble_eq_true rfl) (Nat.le_of_ble_eq_true rfl) (Nat.le_of_ble_eq_true rfl) (Nat.le_of_ble_eq_true rfl) ?_
      first | refine w_iaddN dX8_owedNow_44 ?_ | refine w_iadd dX8_owedNow_44 ?_
      refine w_istore_1 dX8_owedNow_45 rfl ?_
      first | refine w_iinc_2 dX8_owedNow_46 (nI_inc _) rfl ?_ | refine w_iinc_2 dX8_owedNow_46 rfl rfl ?_
      refine w_goto (tgt := 28) dX8_owedNow_49 (by decide) ?_
      have hN := ih (i + 1) (by omega) (by omega)
      rw [sumN, ← Nat.add_assoc] at hN
      exact hN
theorem m_owedNow {E : EV} {V : Nat} {th hi ac tp ba en at_ fa dp io hm_ we sh so : Int32} {mm : Nat → Int32} {T : ST} {sd : Int32} {G : AH}  (hV : G.1 V = some (mO V th hi ac tp ba en at_ fa dp io hm_ we sh so)) (hm : G.1 (V + 1) = some (aI 750 mm)) (hR : MoR mm T sd) (hB : Bd T)  : Cu E 4 kX8_owedNow [.ref V] G (.int (nI (dueN T))) G := by
  obtain ⟨r0, r3, r4, r5, r6, r7, r9, r11, r12, r14, r20, r26, rL⟩ := id hR
  obtain ⟨b0, b1, b2_, b3, b4, b5, b6, b7, b8, b9, b10, b11, b12, b13, b14, b15, b16, b17, b18, b19⟩ := id hB
  refine Ct.intro rfl (by decide) [.ref V, .float 0, .float 0] (by simp [Value.category]) (Nat.le_of_ble_eq_true rfl) rfl ?_
  refine w_aload_n dX8_owedNow_0 rfl ?_
  refine w_aload_n dX8_owedNow_1 rfl ?_
  refine wV0u dX8_owedNow_2 lk_X8_253 rfl (by first | assumption | exact gs_at | (rw [gs_ne (by omega)]; (first | assumption | exact gs_at | (rw [gs_ne (by omega)]; (first | assumption | exact gs_at | (rw [gs_ne (by omega)]; (first | assumption | exact gs_at | (rw [gs_ne (by omega)]; (first | assumption | exact gs_at))))))))) rfl rfl (m_missingOnes hV hm hR hB) (Nat.le_of_ble_eq_true rfl) (Nat.le_of_ble_eq_true rfl) (Nat.le_of_ble_eq_true rfl) (Nat.le_of_ble_eq_true rfl) ?_
  have hbt := bitN_12 (mis T) b0
  refine wV1u dX8_owedNow_5 lk_X8_256 rfl (by first | assumption | exact gs_at | (rw [gs_ne (by omega)]; (first | assumption | exact gs_at | (rw [gs_ne (by omega)]; (first | assumption | exact gs_at | (rw [gs_ne (by omega)]; (first | assumption | exact gs_at | (rw [gs_ne (by omega)]; (first | assumption | exact gs_at))))))))) rfl rfl (m_valueOf hV hm hR hB (by omega)) (Nat.le_of_ble_eq_true rfl) (Nat.le_of_ble_eq_true rfl) (Nat.le_of_ble_eq_true rfl) (Nat.le_of_ble_eq_true rfl) ?_
  refine w_iconst (v := nI 0) dX8_owedNow_8 (by decide) ?_
  refine w_aload_n dX8_owedNow_9 rfl ?_
  refine wV0u dX8_owedNow_10 lk_X8_244 rfl (by first | assumption | exact gs_at | (rw [gs_ne (by omega)]; (first | assumption | exact gs_at | (rw [gs_ne (by omega)]; (first | assumption | exact gs_at | (rw [gs_ne (by omega)]; (first | assumption | exact gs_at | (rw [gs_ne (by omega)]; (first | assumption | exact gs_at))))))))) rfl rfl (m_soils hV hm hR hB) (Nat.le_of_ble_eq_true rfl) (Nat.le_of_ble_eq_true rfl) (Nat.le_of_ble_eq_true rfl) (Nat.le_of_ble_eq_true rfl) ?_
  have hso := soilAll_le hB
  refine w_aload_n dX8_owedNow_13 rfl ?_
  refine w_getf dX8_owedNow_14 fl_X8_7 (by first | assumption | exact gs_at | (rw [gs_ne (by omega)]; (first | assumption | exact gs_at | (rw [gs_ne (by omega)]; (first | assumption | exact gs_at | (rw [gs_ne (by omega)]; (first | assumption | exact gs_at | (rw [gs_ne (by omega)]; (first | assumption | exact gs_at))))))))) rfl ?_
  refine w_bipush (v := nI 6) dX8_owedNow_17 (by decide) ?_
  refine w_iaload dX8_owedNow_19 (by first | assumption | exact gs_at | (rw [gs_ne (by omega)]; (first | assumption | exact gs_at | (rw [gs_ne (by omega)]; (first | assumption | exact gs_at | (rw [gs_ne (by omega)]; (first | assumption | exact gs_at | (rw [gs_ne (by omega)]; (first | assumption | exact gs_at))))))))) (by first | assumption | exact vp_in_nI (by omega) (by omega) | exact vp_in_nI (by assumption) (by omega)) ?_
  rw [nI_clamp (by omega)]
  first | rw [r3] | rw [r4] | rw [r5] | rw [r6] | rw [r0] | rw [r11] | rw [r12] | rw [r7 _ (by omega)] | rw [r9 _ (by omega)] | rw [r14 _ (by omega)] | rw [r20 _ (by omega)] | rw [r26 _ _ (by omega) (by omega)] | skip
  refine w_isub dX8_owedNow_20 ?_
  refine wS2u dX8_owedNow_21 lk_X8_219 rfl (m_greater0 (by omega) (by omega)) (Nat.le_of_ble_eq_true rfl) (Nat.le_of_ble_eq_true rfl) (Nat.le_of_ble_eq_true rfl) (Nat.le_of_ble_eq_true rfl) ?_
  first | refine w_iaddN dX8_owedNow_24 ?_ | refine w_iadd dX8_owedNow_24 ?_
  refine w_istore_1 dX8_owedNow_25 rfl ?_
  refine w_iconst (v := nI 0) dX8_owedNow_26 (by decide) ?_
  refine w_istore_2 dX8_owedNow_27 rfl ?_
  rw [← due_eq T]
  exact ml_owed hV hm hR hB ⟨rfl, rfl⟩ (T 12 0 + 1) 0 (by omega) (by omega)
