/-! sums over sets are one; the model: what parts evenly, what lightens -/
def smB (g : Nat → Nat) (s : Nat) : Nat → Nat | 0 => 0 | k + 1 => smB g s k + (if s / 2 ^ k % 2 = 1 then g k else 0)
theorem sb_low (g : Nat → Nat) (s : Nat) : ∀ k, k ≤ 6 → sbN g 0 (s % 64) k = smB g s k
  | 0, _ => rfl
  | k + 1, h => by
    rw [sbN, smB, sb_low g s k (by omega), Nat.zero_add]
    have e : (s % 64).testBit k = s.testBit k := by
      rw [show (64 : Nat) = 2 ^ 6 from rfl, Nat.testBit_mod_two_pow]
      simp [show k < 6 by omega]
    rw [e]
    by_cases h2 : s.testBit k = true
    · rw [if_pos h2, if_pos (bit_iff.mpr h2)]
    · rw [if_neg h2, if_neg (fun h3 => h2 (bit_iff.mp h3))]
theorem sb_high (g : Nat → Nat) (s : Nat) : ∀ k, k ≤ 6 → smB g s 6 + sbN g 6 (s / 64 % 64) k = smB g s (6 + k)
  | 0, _ => rfl
  | k + 1, h => by
    rw [sbN, ← Nat.add_assoc, sb_high g s k (by omega), show 6 + (k + 1) = (6 + k) + 1 by omega, smB]
    have e : (s / 64 % 64).testBit k = s.testBit (6 + k) := by
      rw [show (64 : Nat) = 2 ^ 6 from rfl, Nat.testBit_mod_two_pow, Nat.testBit_div_two_pow, Nat.add_comm]
      simp [show k < 6 by omega]
    rw [e]
    by_cases h2 : s.testBit (6 + k) = true
    · rw [if_pos h2, if_pos (bit_iff.mpr h2)]
    · rw [if_neg h2, if_neg (fun h3 => h2 (bit_iff.mp h3))]
theorem sb_eq (g : Nat → Nat) (s : Nat) : sb12 g s = smB g s 12 := by
  unfold sb12
  rw [sb_low g s 6 (Nat.le_refl _), sb_high g s 6 (Nat.le_refl _)]
theorem smB_cut {g : Nat → Nat} {s n : Nat} (h : ∀ i, n ≤ i → g i = 0) : ∀ k, smB g s (n + k) = smB g s n
  | 0 => rfl
  | k + 1 => by
    rw [show n + (k + 1) = (n + k) + 1 by omega, smB, smB_cut h k, h (n + k) (by omega)]
    split <;> rfl
theorem smB_le {g : Nat → Nat} {s : Nat} : ∀ k, smB g s k ≤ sumN k g
  | 0 => Nat.le_refl _
  | k + 1 => by have := smB_le (g := g) (s := s) k; rw [smB, sumN]; split <;> omega
theorem vl_sm (T : ST) (s : Nat) : ∀ k, vlN T s k = smB (T 3) s k
  | 0 => rfl
  | k + 1 => by rw [vlN, smB, vl_sm T s k]
theorem vs_eq {T : ST} (hB : Bd T) (s : Nat) : vlN T s (T 12 0) = sb12 (T 3) s := by
  have h9 := hB.2.2.2.2.2.2.2.2.2.2.2.2.2.2.2.2.2.2.2
  rw [vl_sm, sb_eq, ← smB_cut (n := T 12 0) (fun i hi => h9 3 i (by decide) hi) (12 - T 12 0), show T 12 0 + (12 - T 12 0) = 12 by have := hB.1; omega]
theorem bit_and {s m k : Nat} : ((s &&& m) / 2 ^ k % 2 = 1) ↔ (s / 2 ^ k % 2 = 1 ∧ m / 2 ^ k % 2 = 1) := by
  rw [bit_iff, bit_iff, bit_iff, Nat.testBit_and, Bool.and_eq_true]
theorem owe_sm (T : ST) (s n : Nat) : ∀ k, k ≤ n → vlN T (s &&& bitN (mis T) n) k + smB (worN T) s k = smB (oweN T) s k
  | 0, _ => rfl
  | k + 1, h => by
    have ih := owe_sm T s n k (by omega)
    rw [vlN, smB, smB]
    by_cases h1 : s / 2 ^ k % 2 = 1
    · by_cases h2 : mis T k
      · rw [if_pos (bit_and.mpr ⟨h1, (bitN_iff _ _ _).mpr ⟨h, h2⟩⟩), if_pos h1, if_pos h1]
        have ho : oweN T k = T 3 k + worN T k := by unfold oweN; rw [if_pos h2]
        rw [ho]; omega
      · rw [if_neg (fun h3 => h2 ((bitN_iff _ _ _).mp (bit_and.mp h3).2).2), if_pos h1, if_pos h1]
        have ho : oweN T k = 0 + worN T k := by unfold oweN; rw [if_neg h2]
        rw [ho]; omega
    · rw [if_neg (fun h3 => h1 (bit_and.mp h3).1), if_neg h1, if_neg h1]; omega
theorem owe_sb {T : ST} (hB : Bd T) (s : Nat) : smB (oweN T) s (T 12 0) = sb12 (oweN T) s := by
  rw [sb_eq, ← smB_cut (n := T 12 0) (fun i hi => owe_0 hB hi) (12 - T 12 0), show T 12 0 + (12 - T 12 0) = 12 by have := hB.1; omega]
theorem owe_le_due (T : ST) (s k : Nat) (h : k ≤ T 12 0) : smB (oweN T) s k ≤ dueN T := by
  have h1 := smB_le (g := oweN T) (s := s) k
  have h2 : ∀ j, sumN k (oweN T) ≤ sumN (k + j) (oweN T) := by
    intro j
    induction j with
    | zero => exact Nat.le_refl _
    | succ j ih => rw [show k + (j + 1) = (k + j) + 1 by omega, sumN]; omega
  have h3 := h2 (T 12 0 - k)
  rw [show k + (T 12 0 - k) = T 12 0 by omega] at h3
  unfold dueN
  omega
theorem ltS_inv {due n : Nat} {w : Nat → Nat} : ∀ s, ((ltS due n w s).1 = -1 ∧ (ltS due n w s).2 = 13) ∨ ∃ f, f < s ∧ (ltS due n w s).1 = nI f ∧ (ltS due n w s).2 = cntN 12 f
  | 0 => Or.inl ⟨rfl, rfl⟩
  | s + 1 => by
    rw [ltS]
    split
    · exact Or.inr ⟨s, Nat.lt_succ_self _, rfl, rfl⟩
    · rcases ltS_inv (due := due) (n := n) (w := w) s with h | ⟨f, h1, h2⟩
      · exact Or.inl h
      · exact Or.inr ⟨f, by omega, h2⟩
theorem ml_parted {E : EV} {Q : OC → AH → Prop} {V : Nat} {th hi ac tp ba en at_ fa dp io hm_ we sh so : Int32} {mm : Nat → Int32} {T : ST} {sd : Int32} {G : AH} {pt all : Nat} (hV : G.1 V = some (mO V th hi ac tp ba en at_ fa dp io hm_ we sh so)) (hm : G.1 (V + 1) = some (aI 750 mm)) (hR : MoR mm T sd) (hB : Bd T) (hpt : pt < 2 ^ 30) (hall : all ≤ 1188) (hQ : Q (.inl (some (.int (nI (if pt = 0 then (ptS all (sb12 (T 3)) (1 * 2 ^ T 12 0)).2 else (ptS all (sb12 (T 3)) (1 * 2 ^ T 12 0)).1))))) G) : ∀ (k i : Nat), 1 * 2 ^ T 12 0 - i < k → i ≤ 1 * 2 ^ T 12 0 → 1 ≤ i → ∀ z : Value, Wp E 3 0 0 kX8_parted Q G (0, 0) 19 [.ref V, .int (nI pt), .int (nI all), .int (nI (ptS all (sb12 (T 3)) i).1), .int (nI (ptS all (sb12 (T 3)) i).2), .int (nI i), z] [] := by
  obtain ⟨r0, r3, r4, r5, r6, r7, r9, r11, r12, r14, r20, r26, rL⟩ := id hR
  obtain ⟨b0, b1, b2_, b3, b4, b5, b6, b7, b8, b9, b10, b11, b12, b13, b14, b15, b16, b17, b18, b19⟩ := id hB
  have hp := p2_12 b0
  have hv : ∀ s, sb12 (T 3) s ≤ 1188 := fun s => Nat.le_trans (sb12_le b4 s) (by omega)
  intro k
  induction k with
  | zero => intro i h; exact absurd h (by omega)
  | succ k ih =>
    intro i hk hi
    intro hi1 z
    have hpl := ptS_le all (sb12 (T 3)) i
    have hvi := hv i
    refine w_iload dX8_parted_19 rfl ?_
    refine w_iconst (v := nI 1) dX8_parted_21 (by decide) ?_
    refine w_aload_n dX8_parted_22 rfl ?_
    refine w_getf dX8_parted_23 fl_X8_7 (by first | assumption | exact gs_at | (rw [gs_ne (by omega)]; (first | assumption | exact gs_at | (rw [gs_ne (by omega)]; (first | assumption | exact gs_at | (rw [gs_ne (by omega)]; (first | assumption | exact gs_at | (rw [gs_ne (by omega)]; (first | assumption | exact gs_at))))))))) rfl ?_
    refine w_iconst (v := nI 3) dX8_parted_26 (by decide) ?_
    refine w_iaload dX8_parted_27 (by first | assumption | exact gs_at | (rw [gs_ne (by omega)]; (first | assumption | exact gs_at | (rw [gs_ne (by omega)]; (first | assumption | exact gs_at | (rw [gs_ne (by omega)]; (first | assumption | exact gs_at | (rw [gs_ne (by omega)]; (first | assumption | exact gs_at))))))))) (by first | assumption | exact vp_in_nI (by omega) (by omega) | exact vp_in_nI (by assumption) (by omega)) ?_
    rw [nI_clamp (by omega)]
    first | rw [r3] | rw [r4] | rw [r5] | rw [r6] | rw [r0] | rw [r11] | rw [r12] | rw [r7 _ (by omega)] | rw [r9 _ (by omega)] | rw [r14 _ (by omega)] | rw [r20 _ (by omega)] | rw [r26 _ _ (by omega) (by omega)] | skip
    refine w_ishlN (by omega) (by omega) dX8_parted_28 ?_
    refine w_icmp_ge (tgt := 82) dX8_parted_29 (by decide) (fun c_29 => ?_) (fun c_29 => ?_)
    · try simp (disch := omega) only [nI_ltI, nI_leI, nI_eq, gt_iff_lt, ne_eq, Nat.not_lt, Nat.not_le] at c_29
      refine w_iload_n dX8_parted_82 rfl ?_
      refine w_ifN_eq (tgt := 90) dX8_parted_83 (by decide) (fun c_83 => ?_) (fun c_83 => ?_)
      · try simp (disch := omega) only [nI_ltI, nI_leI, nI_eq, gt_iff_lt, ne_eq, Nat.not_lt, Nat.not_le] at c_83
        refine w_iload dX8_parted_90 rfl ?_
        refine w_iret dX8_parted_92 rfl (Nat.le_of_ble_eq_true rfl) (Nat.le_of_ble_eq_true rfl) ?_
        have e : i = 1 * 2 ^ T 12 0 := by omega
        subst e
        first
          | (rw [if_pos (by omega)] at hQ; exact hQ)
          | (rw [if_neg (by omega)] at hQ; exact hQ)
      · try simp (disch := omega) only [nI_ltI, nI_leI, nI_eq, gt_iff_lt, ne_eq, Nat.not_lt, Nat.not_le] at c_83
        refine w_iload_n dX8_parted_86 rfl ?_
        refine w_goto (tgt := 92) dX8_parted_87 (by decide) ?_
        refine w_iret dX8_parted_92 rfl (Nat.le_of_ble_eq_true rfl) (Nat.le_of_ble_eq_true rfl) ?_
        have e : i = 1 * 2 ^ T 12 0 := by omega
        subst e
        first
          | (rw [if_pos (by omega)] at hQ; exact hQ)
          | (rw [if_neg (by omega)] at hQ; exact hQ)
    · try simp (disch := omega) only [nI_ltI, nI_leI, nI_eq, gt_iff_lt, ne_eq, Nat.not_lt, Nat.not_le] at c_29
      refine w_iload_n dX8_parted_32 rfl ?_
      refine w_iconst (v := nI 2) dX8_parted_33 (by decide) ?_
      refine w_aload_n dX8_parted_34 rfl ?_
      refine w_iload dX8_parted_35 rfl ?_
      refine wV1u dX8_parted_37 lk_X8_256 rfl (by first | assumption | exact gs_at | (rw [gs_ne (by omega)]; (first | assumption | exact gs_at | (rw [gs_ne (by omega)]; (first | assumption | exact gs_at | (rw [gs_ne (by omega)]; (first | assumption | exact gs_at | (rw [gs_ne (by omega)]; (first | assumption | exact gs_at))))))))) rfl rfl (m_valueOf hV hm hR hB (by omega)) (Nat.le_of_ble_eq_true rfl) (Nat.le_of_ble_eq_true rfl) (Nat.le_of_ble_eq_true rfl) (Nat.le_of_ble_eq_true rfl) ?_
      rw [vs_eq hB]
      first | refine w_imulN dX8_parted_40 ?_ | refine w_imul dX8_parted_40 ?_
      refine w_isub dX8_parted_41 ?_
      refine w_istore_6 dX8_parted_42 rfl ?_
      refine w_iload dX8_parted_44 rfl ?_
      have had : absd all (2 * sb12 (T 3) i) < 2 ^ 30 := by unfold absd; split <;> omega
      have hab : (if nI 0 ≤ nI all - nI (2 * sb12 (T 3) i) then nI all - nI (2 * sb12 (T 3) i) else -(nI all - nI (2 * sb12 (T 3) i))) = nI (absd all (2 * sb12 (T 3) i)) := abs_sub (by omega) (by omega)
      refine w_ifN_ge (tgt := 55) dX8_parted_46 (by decide) (fun c_46 => ?_) (fun c_46 => ?_)
      · try simp (disch := omega) only [nI_ltI, nI_leI, nI_eq, gt_iff_lt, ne_eq, Nat.not_lt, Nat.not_le] at c_46
        rw [if_pos c_46] at hab
        rw [hab]
        refine w_iload dX8_parted_55 rfl ?_
        refine w_istore_6 dX8_parted_57 rfl ?_
        refine w_iload dX8_parted_59 rfl ?_
        refine w_iload dX8_parted_61 rfl ?_
        refine w_icmp_lt (tgt := 69) dX8_parted_63 (by decide) (fun c_63 => ?_) (fun c_63 => ?_)
        · try simp (disch := omega) only [nI_ltI, nI_leI, nI_eq, gt_iff_lt, ne_eq, Nat.not_lt, Nat.not_le] at c_63
          refine w_iload dX8_parted_69 rfl ?_
          refine w_istore_4 dX8_parted_71 rfl ?_
          refine w_iload dX8_parted_73 rfl ?_
          refine w_istore_3 dX8_parted_75 rfl ?_
          first | refine w_iinc_5 dX8_parted_76 (nI_inc _) rfl ?_ | refine w_iinc_5 dX8_parted_76 rfl rfl ?_
          refine w_goto (tgt := 19) dX8_parted_79 (by decide) ?_
          have hN := ih (i + 1) (by omega) (by omega) (by omega) (.int (nI (absd all (2 * sb12 (T 3) i))))
          rw [ptS, if_neg (by omega)] at hN
          first
            | (rw [if_pos c_63] at hN; exact hN)
            | (rw [if_neg (Nat.not_lt.mpr c_63)] at hN; exact hN)
        · try simp (disch := omega) only [nI_ltI, nI_leI, nI_eq, gt_iff_lt, ne_eq, Nat.not_lt, Nat.not_le] at c_63
          refine w_goto (tgt := 76) dX8_parted_66 (by decide) ?_
          first | refine w_iinc_5 dX8_parted_76 (nI_inc _) rfl ?_ | refine w_iinc_5 dX8_parted_76 rfl rfl ?_
          refine w_goto (tgt := 19) dX8_parted_79 (by decide) ?_
          have hN := ih (i + 1) (by omega) (by omega) (by omega) (.int (nI (absd all (2 * sb12 (T 3) i))))
          rw [ptS, if_neg (by omega)] at hN
          first
            | (rw [if_pos c_63] at hN; exact hN)
            | (rw [if_neg (Nat.not_lt.mpr c_63)] at hN; exact hN)
      · try simp (disch := omega) only [nI_ltI, nI_leI, nI_eq, gt_iff_lt, ne_eq, Nat.not_lt, Nat.not_le] at c_46
        refine w_iload dX8_parted_49 rfl ?_
        refine w_ineg dX8_parted_51 ?_
        rw [if_neg (fun h => c_46 h)] at hab
        rw [hab]
        refine w_goto (tgt := 57) dX8_parted_52 (by decide) ?_
        refine w_istore_6 dX8_parted_57 rfl ?_
        refine w_iload dX8_parted_59 rfl ?_
        refine w_iload dX8_parted_61 rfl ?_
        refine w_icmp_lt (tgt := 69) dX8_parted_63 (by decide) (fun c_63 => ?_) (fun c_63 => ?_)
        · try simp (disch := omega) only [nI_ltI, nI_leI, nI_eq, gt_iff_lt, ne_eq, Nat.not_lt, Nat.not_le] at c_63
          refine w_iload dX8_parted_69 rfl ?_
          refine w_istore_4 dX8_parted_71 rfl ?_
          refine w_iload dX8_parted_73 rfl ?_
          refine w_istore_3 dX8_parted_75 rfl ?_
          first | refine w_iinc_5 dX8_parted_76 (nI_inc _) rfl ?_ | refine w_iinc_5 dX8_parted_76 rfl rfl ?_
          refine w_goto (tgt := 19) dX8_parted_79 (by decide) ?_
          have hN := ih (i + 1) (by omega) (by omega) (by omega) (.int (nI (absd all (2 * sb12 (T 3) i))))
          rw [ptS, if_neg (by omega)] at hN
          first
            | (rw [if_pos c_63] at hN; exact hN)
            | (rw [if_neg (Nat.not_lt.mpr c_63)] at hN; exact hN)
        · try simp (disch := omega) only [nI_ltI, nI_leI, nI_eq, gt_iff_lt, ne_eq, Nat.not_lt, Nat.not_le] at c_63
          refine w_goto (tgt := 76) dX8_parted_66 (by decide) ?_
          first | refine w_iinc_5 dX8_parted_76 (nI_inc _) rfl ?_ | refine w_iinc_5 dX8_parted_76 rfl rfl ?_
          refine w_goto (tgt := 19) dX8_parted_79 (by decide) ?_
          have hN := ih (i + 1) (by omega) (by omega) (by omega) (.int (nI (absd all (2 * sb12 (T 3) i))))
          rw [ptS, if_neg (by omega)] at hN
          first
            | (rw [if_pos c_63] at hN; exact hN)
            | (rw [if_neg (Nat.not_lt.mpr c_63)] at hN; exact hN)
theorem m_parted {E : EV} {V : Nat} {th hi ac tp ba en at_ fa dp io hm_ we sh so : Int32} {mm : Nat → Int32} {T : ST} {sd : Int32} {G : AH} {pt : Nat} (hV : G.1 V = some (mO V th hi ac tp ba en at_ fa dp io hm_ we sh so)) (hm : G.1 (V + 1) = some (aI 750 mm)) (hR : MoR mm T sd) (hB : Bd T) (hpt : pt < 2 ^ 30) : Cu E 3 kX8_parted [.ref V, .int (nI pt)] G (.int (nI (if pt = 0 then (ptS (sumN (T 12 0) (T 3)) (sb12 (T 3)) (1 * 2 ^ T 12 0)).2 else (ptS (sumN (T 12 0) (T 3)) (sb12 (T 3)) (1 * 2 ^ T 12 0)).1))) (gs G V (mO V (nI 0) hi ac tp ba en at_ fa dp io hm_ we sh so)) := by
  obtain ⟨r0, r3, r4, r5, r6, r7, r9, r11, r12, r14, r20, r26, rL⟩ := id hR
  obtain ⟨b0, b1, b2_, b3, b4, b5, b6, b7, b8, b9, b10, b11, b12, b13, b14, b15, b16, b17, b18, b19⟩ := id hB
  have hV2 : (gs G V (mO V (nI 0) hi ac tp ba en at_ fa dp io hm_ we sh so)).1 V = some (mO V (nI 0) hi ac tp ba en at_ fa dp io hm_ we sh so) := gs_at
  have hm2 : (gs G V (mO V (nI 0) hi ac tp ba en at_ fa dp io hm_ we sh so)).1 (V + 1) = some (aI 750 mm) := (gs_ne (by omega)).trans hm
  refine Ct.intro rfl (by decide) [.ref V, .int (nI pt), .float 0, .float 0, .float 0, .float 0, .float 0] (by simp [Value.category]) (Nat.le_of_ble_eq_true rfl) rfl ?_
  refine w_aload_n dX8_parted_0 rfl ?_
  refine w_iconst (v := nI 0) dX8_parted_1 (by decide) ?_
  refine w_putf dX8_parted_2 fl_X8_39 (by first | assumption | exact gs_at | (rw [gs_ne (by omega)]; (first | assumption | exact gs_at | (rw [gs_ne (by omega)]; (first | assumption | exact gs_at | (rw [gs_ne (by omega)]; (first | assumption | exact gs_at | (rw [gs_ne (by omega)]; (first | assumption | exact gs_at))))))))) (by simp) rfl rfl ?_
  refine w_aload_n dX8_parted_5 rfl ?_
  refine w_iconst (v := nI 3) dX8_parted_6 (by decide) ?_
  refine wV1u dX8_parted_7 lk_X8_325 rfl (by first | assumption | exact gs_at | (rw [gs_ne (by omega)]; (first | assumption | exact gs_at | (rw [gs_ne (by omega)]; (first | assumption | exact gs_at | (rw [gs_ne (by omega)]; (first | assumption | exact gs_at | (rw [gs_ne (by omega)]; (first | assumption | exact gs_at))))))))) rfl rfl (m_together (w := 3) hV2 hm2 hR hB (by decide)) (Nat.le_of_ble_eq_true rfl) (Nat.le_of_ble_eq_true rfl) (Nat.le_of_ble_eq_true rfl) (Nat.le_of_ble_eq_true rfl) ?_
  have hall := sumN_le (f := T 3) (c := 99) b4 (T 12 0)
  refine w_istore_2 dX8_parted_10 rfl ?_
  refine w_iconst (v := nI 0) dX8_parted_11 (by decide) ?_
  refine w_istore_3 dX8_parted_12 rfl ?_
  refine w_iload_n dX8_parted_13 rfl ?_
  refine w_istore_4 dX8_parted_14 rfl ?_
  refine w_iconst (v := nI 1) dX8_parted_16 (by decide) ?_
  refine w_istore_5 dX8_parted_17 rfl ?_
  exact ml_parted hV2 hm2 hR hB hpt (by omega) ⟨rfl, rfl⟩ (1 * 2 ^ T 12 0 + 1) 1 (by omega) (by have := Nat.two_pow_pos (T 12 0); omega) (Nat.le_refl _) (.float 0)
