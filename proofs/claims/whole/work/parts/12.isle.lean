/-! an island: its picture in the heap, its bounds, and what its methods tell of it -/
abbrev ST : Type := Nat → Nat → Nat
abbrev isO (a : Nat) (T : ST) (sd : Int32) : HC := oB 1 [.ref (a + 1), .ref (a + 2), .ref (a + 3), .ref (a + 4), .ref (a + 5), .ref (a + 6), .ref (a + 7), .ref (a + 8), .ref (a + 9), .ref (a + 10), .ref (a + 11), .ref (a + 12), .int (nI (T 12 0)), .int (nI (T 12 1)), .int (nI (T 12 2)), .int (nI (T 12 3)), .int (nI (T 12 4)), .int sd]
abbrev leO (a : Nat) (T : ST) : HC := oB 4 [.ref (a + 13), .int (nI (T 12 5)), .int (nI (T 12 6))]
def Isl (G : AH) (a : Nat) (T : ST) (sd : Int32) : Prop := G.1 a = some (isO a T sd) ∧ G.1 (a + 1) = some (aI 12 (fun i => nI (T 0 i))) ∧ G.1 (a + 2) = some (aI 12 (fun i => nI (T 1 i))) ∧ G.1 (a + 3) = some (aI 12 (fun i => nI (T 2 i))) ∧ G.1 (a + 4) = some (aI 12 (fun i => nI (T 3 i))) ∧ G.1 (a + 5) = some (aI 12 (fun i => nI (T 4 i))) ∧ G.1 (a + 6) = some (aI 12 (fun i => nI (T 5 i))) ∧ G.1 (a + 7) = some (aI 12 (fun i => nI (T 6 i))) ∧ G.1 (a + 8) = some (aI 6 (fun i => nI (T 7 i))) ∧ G.1 (a + 9) = some (aI 6 (fun i => nI (T 8 i))) ∧ G.1 (a + 10) = some (aI 2 (fun i => nI (T 9 i))) ∧ G.1 (a + 11) = some (aI 2 (fun i => nI (T 10 i))) ∧ G.1 (a + 12) = some (leO a T) ∧ G.1 (a + 13) = some (aI 240 (fun i => nI (T 11 i)))
def Bd (T : ST) : Prop := T 12 0 ≤ 12 ∧ (∀ i, T 0 i < 6) ∧ (∀ i, T 1 i < 6) ∧ (∀ i, T 2 i ≤ 99) ∧ (∀ i, T 3 i ≤ 99) ∧ (∀ i, T 4 i ≤ 1) ∧ (∀ i, T 5 i < 6) ∧ (∀ i, T 6 i ≤ 99) ∧ (∀ i, T 7 i ≤ 99) ∧ (∀ i, T 8 i ≤ 12) ∧ (∀ i, T 9 i ≤ 20) ∧ (∀ i, T 10 i ≤ 9999) ∧ (∀ i, T 11 i ≤ 9999) ∧ T 12 1 ≤ 12 ∧ T 12 2 ≤ 100 ∧ T 12 3 ≤ 9999 ∧ T 12 4 ≤ 594 ∧ T 12 5 < 60 ∧ T 12 6 ≤ 60 ∧ (∀ f i, f ≤ 6 → T 12 0 ≤ i → T f i = 0)
def b2 (p : Prop) [Decidable p] : Nat := if p then 1 else 0
theorem b2_le (p : Prop) [Decidable p] : b2 p ≤ 1 := by unfold b2; split <;> omega
theorem nI_b2 (p : Prop) [Decidable p] : (nI (b2 p) = nI 0) = ¬ p := by
  unfold b2
  by_cases h : p
  · simp only [h, if_true, not_true, eq_iff_iff, iff_false]; decide
  · simp only [h, if_false, not_false_eq_true]
theorem b2_bool (p : Prop) [Decidable p] : narrow .boolean (.int (nI (b2 p))) = .int (nI (b2 p)) := by unfold b2; split <;> rfl
def sumN : Nat → (Nat → Nat) → Nat | 0, _ => 0 | n + 1, f => sumN n f + f n
def bitN (p : Nat → Prop) [DecidablePred p] : Nat → Nat | 0 => 0 | n + 1 => if p n then bitN p n ||| 1 * 2 ^ n else bitN p n
theorem bitN_t {p : Nat → Prop} [DecidablePred p] {n : Nat} (h : p n) : bitN p (n + 1) = bitN p n ||| 1 * 2 ^ n := if_pos h
theorem bitN_f {p : Nat → Prop} [DecidablePred p] {n : Nat} (h : ¬ p n) : bitN p (n + 1) = bitN p n := if_neg h
theorem sumN_le {f : Nat → Nat} {c : Nat} (h : ∀ i, f i ≤ c) : ∀ n, sumN n f ≤ n * c
  | 0 => by simp [sumN]
  | n + 1 => by have := sumN_le h n; have := h n; rw [sumN, Nat.succ_mul]; omega
theorem p2_lt {i : Nat} (h : i < 31) : 1 * 2 ^ i < 2 ^ 32 := by
  have := Nat.pow_lt_pow_right (a := 2) (by decide) (show i < 32 by omega); omega
/-- NaN-free subtraction cut at nought -/
theorem max0_sub {a b : Nat} (ha : a < 2 ^ 30) (hb : b < 2 ^ 30) : (if nI 0 < nI a - nI b then nI a - nI b else nI 0) = nI (a - b) := by
  by_cases h : b ≤ a
  · rw [pk_sub h]
    by_cases h0 : 0 < a - b
    · rw [if_pos (nI_lt h0 (by omega))]
    · rw [if_neg (nI_nlt (by omega) (by decide)), show a - b = 0 by omega]
  · have h1 : ¬ nI 0 < nI a - nI b := fun h2 => by
      have h3 := pk_sneg hb (show a < b by omega)
      exact absurd (Int32.lt_trans h2 h3) (by decide)
    rw [if_neg h1, show a - b = 0 by omega]
def thereN (T : ST) : Nat := if T 12 3 % 364 < 182 then 0 else 1
theorem c_there {E : EV} {a : Nat} {T : ST} {sd : Int32} {G : AH} (hI : Isl G a T sd) (hB : Bd T) : Cu E 1 kX1_there [.ref a] G (.int (nI (thereN T))) G := by
  obtain ⟨i0, i1, i2, i3, i4, i5, i6, i7, i8, i9, i10, i11, i12, i13⟩ := id hI
  obtain ⟨b0, b1, b2_, b3, b4, b5, b6, b7, b8, b9, b10, b11, b12, b13, b14, b15, b16, b17, b18, b19⟩ := id hB
  refine Ct.intro rfl (by decide) [.ref a] (by simp [Value.category]) (Nat.le_of_ble_eq_true rfl) rfl ?_
  refine w_aload_n dX1_there_0 rfl ?_
  refine w_getf dX1_there_1 fl_X1_62 (by first | assumption | exact gs_at | (rw [gs_ne (by omega)]; (first | assumption | exact gs_at | (rw [gs_ne (by omega)]; (first | assumption | exact gs_at | (rw [gs_ne (by omega)]; (first | assumption | exact gs_at | (rw [gs_ne (by omega)]; (first | assumption | exact gs_at))))))))) rfl ?_
  refine w_sipush (v := nI 364) dX1_there_4 (by decide) ?_
  first | refine w_iremN (by omega) (by omega) (by omega) dX1_there_7 ?_ | refine w_irem dX1_there_7 (by decide) ?_
  refine w_sipush (v := nI 182) dX1_there_8 (by decide) ?_
  refine w_icmp_ge (tgt := 18) dX1_there_11 (by decide) (fun c_11 => ?_) (fun c_11 => ?_)
  · try simp (disch := omega) only [nI_b2, Decidable.not_not, nI_ltI, nI_leI, nI_eq, ge_iff_le, gt_iff_lt, ne_eq, Nat.not_lt, Nat.not_le] at c_11
    refine w_iconst (v := nI 1) dX1_there_18 (by decide) ?_
    refine w_iret dX1_there_19 rfl (Nat.le_of_ble_eq_true rfl) (Nat.le_of_ble_eq_true rfl) ?_
    refine ⟨?_, rfl⟩
    unfold thereN
    first | rw [if_pos (by omega)] | rw [if_neg (by omega)]
  · try simp (disch := omega) only [nI_b2, Decidable.not_not, nI_ltI, nI_leI, nI_eq, ge_iff_le, gt_iff_lt, ne_eq, Nat.not_lt, Nat.not_le] at c_11
    refine w_iconst (v := nI 0) dX1_there_14 (by decide) ?_
    refine w_goto (tgt := 19) dX1_there_15 (by decide) ?_
    refine w_iret dX1_there_19 rfl (Nat.le_of_ble_eq_true rfl) (Nat.le_of_ble_eq_true rfl) ?_
    refine ⟨?_, rfl⟩
    unfold thereN
    first | rw [if_pos (by omega)] | rw [if_neg (by omega)]
def leftN (T : ST) : Nat := 182 - T 12 3 % 182
theorem c_daysLeft {E : EV} {a : Nat} {T : ST} {sd : Int32} {G : AH} (hI : Isl G a T sd) (hB : Bd T) : Cu E 1 kX1_daysLeft [.ref a] G (.int (nI (leftN T))) G := by
  obtain ⟨i0, i1, i2, i3, i4, i5, i6, i7, i8, i9, i10, i11, i12, i13⟩ := id hI
  obtain ⟨b0, b1, b2_, b3, b4, b5, b6, b7, b8, b9, b10, b11, b12, b13, b14, b15, b16, b17, b18, b19⟩ := id hB
  refine Ct.intro rfl (by decide) [.ref a] (by simp [Value.category]) (Nat.le_of_ble_eq_true rfl) rfl ?_
  refine w_sipush (v := nI 182) dX1_daysLeft_0 (by decide) ?_
  refine w_aload_n dX1_daysLeft_3 rfl ?_
  refine w_getf dX1_daysLeft_4 fl_X1_62 (by first | assumption | exact gs_at | (rw [gs_ne (by omega)]; (first | assumption | exact gs_at | (rw [gs_ne (by omega)]; (first | assumption | exact gs_at | (rw [gs_ne (by omega)]; (first | assumption | exact gs_at | (rw [gs_ne (by omega)]; (first | assumption | exact gs_at))))))))) rfl ?_
  refine w_sipush (v := nI 182) dX1_daysLeft_7 (by decide) ?_
  first | refine w_iremN (by omega) (by omega) (by omega) dX1_daysLeft_10 ?_ | refine w_irem dX1_daysLeft_10 (by decide) ?_
  refine w_isubN (by omega) dX1_daysLeft_11 ?_
  refine w_iret dX1_daysLeft_12 rfl (Nat.le_of_ble_eq_true rfl) (Nat.le_of_ble_eq_true rfl) ?_
  exact ⟨rfl, rfl⟩
theorem c_isMissing {E : EV} {a : Nat} {T : ST} {sd : Int32} {G : AH} {k : Nat} (hI : Isl G a T sd) (hB : Bd T) (hk : k < 12) : Cu E 2 kX1_isMissing [.ref a, .int (nI k)] G (.int (nI (b2 (T 1 k ≠ T 5 k)))) G := by
  obtain ⟨i0, i1, i2, i3, i4, i5, i6, i7, i8, i9, i10, i11, i12, i13⟩ := id hI
  obtain ⟨b0, b1, b2_, b3, b4, b5, b6, b7, b8, b9, b10, b11, b12, b13, b14, b15, b16, b17, b18, b19⟩ := id hB
  have := b2_ k; have := b6 k
  refine Ct.intro rfl (by decide) [.ref a, .int (nI k)] (by simp [Value.category]) (Nat.le_of_ble_eq_true rfl) rfl ?_
  refine w_aload_n dX1_isMissing_0 rfl ?_
  refine w_getf dX1_isMissing_1 fl_X1_15 (by first | assumption | exact gs_at | (rw [gs_ne (by omega)]; (first | assumption | exact gs_at | (rw [gs_ne (by omega)]; (first | assumption | exact gs_at | (rw [gs_ne (by omega)]; (first | assumption | exact gs_at | (rw [gs_ne (by omega)]; (first | assumption | exact gs_at))))))))) rfl ?_
  refine w_iload_n dX1_isMissing_4 rfl ?_
  refine wN2u dX1_isMissing_5 lk_X1_83 rfl (c_atN (by first | assumption | exact gs_at | (rw [gs_ne (by omega)]; (first | assumption | exact gs_at | (rw [gs_ne (by omega)]; (first | assumption | exact gs_at | (rw [gs_ne (by omega)]; (first | assumption | exact gs_at | (rw [gs_ne (by omega)]; (first | assumption | exact gs_at))))))))) (by omega) (by decide)) (Nat.le_of_ble_eq_true rfl) (Nat.le_of_ble_eq_true rfl) (Nat.le_of_ble_eq_true rfl) (Nat.le_of_ble_eq_true rfl) ?_
  refine w_aload_n dX1_isMissing_8 rfl ?_
  refine w_getf dX1_isMissing_9 fl_X1_27 (by first | assumption | exact gs_at | (rw [gs_ne (by omega)]; (first | assumption | exact gs_at | (rw [gs_ne (by omega)]; (first | assumption | exact gs_at | (rw [gs_ne (by omega)]; (first | assumption | exact gs_at | (rw [gs_ne (by omega)]; (first | assumption | exact gs_at))))))))) rfl ?_
  refine w_iload_n dX1_isMissing_12 rfl ?_
  refine wN2u dX1_isMissing_13 lk_X1_83 rfl (c_atN (by first | assumption | exact gs_at | (rw [gs_ne (by omega)]; (first | assumption | exact gs_at | (rw [gs_ne (by omega)]; (first | assumption | exact gs_at | (rw [gs_ne (by omega)]; (first | assumption | exact gs_at | (rw [gs_ne (by omega)]; (first | assumption | exact gs_at))))))))) (by omega) (by decide)) (Nat.le_of_ble_eq_true rfl) (Nat.le_of_ble_eq_true rfl) (Nat.le_of_ble_eq_true rfl) (Nat.le_of_ble_eq_true rfl) ?_
  refine w_icmp_eq (tgt := 23) dX1_isMissing_16 (by decide) (fun c_16 => ?_) (fun c_16 => ?_)
  · try simp (disch := omega) only [nI_b2, Decidable.not_not, nI_ltI, nI_leI, nI_eq, ge_iff_le, gt_iff_lt, ne_eq, Nat.not_lt, Nat.not_le] at c_16
    refine w_iconst (v := nI 0) dX1_isMissing_23 (by decide) ?_
    refine w_zret dX1_isMissing_24 rfl rfl (Nat.le_of_ble_eq_true rfl) (Nat.le_of_ble_eq_true rfl) ?_
    refine ⟨?_, rfl⟩
    unfold b2
    first | rw [if_pos (by omega)] | rw [if_neg (by omega)]
  · try simp (disch := omega) only [nI_b2, Decidable.not_not, nI_ltI, nI_leI, nI_eq, ge_iff_le, gt_iff_lt, ne_eq, Nat.not_lt, Nat.not_le] at c_16
    refine w_iconst (v := nI 1) dX1_isMissing_19 (by decide) ?_
    refine w_goto (tgt := 24) dX1_isMissing_20 (by decide) ?_
    refine w_zret dX1_isMissing_24 rfl rfl (Nat.le_of_ble_eq_true rfl) (Nat.le_of_ble_eq_true rfl) ?_
    refine ⟨?_, rfl⟩
    unfold b2
    first | rw [if_pos (by omega)] | rw [if_neg (by omega)]
def worN (T : ST) (k : Nat) : Nat := T 2 k - T 6 k
theorem c_worseBy {E : EV} {a : Nat} {T : ST} {sd : Int32} {G : AH} {k : Nat} (hI : Isl G a T sd) (hB : Bd T) (hk : k < 12) : Cu E 2 kX1_worseBy [.ref a, .int (nI k)] G (.int (nI (worN T k))) G := by
  obtain ⟨i0, i1, i2, i3, i4, i5, i6, i7, i8, i9, i10, i11, i12, i13⟩ := id hI
  obtain ⟨b0, b1, b2_, b3, b4, b5, b6, b7, b8, b9, b10, b11, b12, b13, b14, b15, b16, b17, b18, b19⟩ := id hB
  have := b3 k; have := b7 k
  refine Ct.intro rfl (by decide) [.ref a, .int (nI k)] (by simp [Value.category]) (Nat.le_of_ble_eq_true rfl) rfl ?_
  refine w_iconst (v := nI 0) dX1_worseBy_0 (by decide) ?_
  refine w_aload_n dX1_worseBy_1 rfl ?_
  refine w_getf dX1_worseBy_2 fl_X1_18 (by first | assumption | exact gs_at | (rw [gs_ne (by omega)]; (first | assumption | exact gs_at | (rw [gs_ne (by omega)]; (first | assumption | exact gs_at | (rw [gs_ne (by omega)]; (first | assumption | exact gs_at | (rw [gs_ne (by omega)]; (first | assumption | exact gs_at))))))))) rfl ?_
  refine w_iload_n dX1_worseBy_5 rfl ?_
  refine wN2u dX1_worseBy_6 lk_X1_83 rfl (c_atN (by first | assumption | exact gs_at | (rw [gs_ne (by omega)]; (first | assumption | exact gs_at | (rw [gs_ne (by omega)]; (first | assumption | exact gs_at | (rw [gs_ne (by omega)]; (first | assumption | exact gs_at | (rw [gs_ne (by omega)]; (first | assumption | exact gs_at))))))))) (by omega) (by decide)) (Nat.le_of_ble_eq_true rfl) (Nat.le_of_ble_eq_true rfl) (Nat.le_of_ble_eq_true rfl) (Nat.le_of_ble_eq_true rfl) ?_
  refine w_aload_n dX1_worseBy_9 rfl ?_
  refine w_getf dX1_worseBy_10 fl_X1_30 (by first | assumption | exact gs_at | (rw [gs_ne (by omega)]; (first | assumption | exact gs_at | (rw [gs_ne (by omega)]; (first | assumption | exact gs_at | (rw [gs_ne (by omega)]; (first | assumption | exact gs_at | (rw [gs_ne (by omega)]; (first | assumption | exact gs_at))))))))) rfl ?_
  refine w_iload_n dX1_worseBy_13 rfl ?_
  refine wN2u dX1_worseBy_14 lk_X1_83 rfl (c_atN (by first | assumption | exact gs_at | (rw [gs_ne (by omega)]; (first | assumption | exact gs_at | (rw [gs_ne (by omega)]; (first | assumption | exact gs_at | (rw [gs_ne (by omega)]; (first | assumption | exact gs_at | (rw [gs_ne (by omega)]; (first | assumption | exact gs_at))))))))) (by omega) (by decide)) (Nat.le_of_ble_eq_true rfl) (Nat.le_of_ble_eq_true rfl) (Nat.le_of_ble_eq_true rfl) (Nat.le_of_ble_eq_true rfl) ?_
  refine w_isub dX1_worseBy_17 ?_
  refine wJ2u dX1_worseBy_18 lk_X1_87 rfl (c_max0) (Nat.le_of_ble_eq_true rfl) (Nat.le_of_ble_eq_true rfl) (Nat.le_of_ble_eq_true rfl) (Nat.le_of_ble_eq_true rfl) ?_
  rw [max0_sub (by omega) (by omega)]
  refine w_iret dX1_worseBy_21 rfl (Nat.le_of_ble_eq_true rfl) (Nat.le_of_ble_eq_true rfl) ?_
  exact ⟨rfl, rfl⟩
def wrkN (T : ST) (k : Nat) : Nat := stN (T 1 k) (T 5 k) + (worN T k + 5 - 1) / 5
theorem c_workOf {E : EV} {a : Nat} {T : ST} {sd : Int32} {G : AH} {k : Nat} (hI : Isl G a T sd) (hB : Bd T) (hk : k < 12) : Cu E 3 kX1_workOf [.ref a, .int (nI k)] G (.int (nI (wrkN T k))) G := by
  obtain ⟨i0, i1, i2, i3, i4, i5, i6, i7, i8, i9, i10, i11, i12, i13⟩ := id hI
  obtain ⟨b0, b1, b2_, b3, b4, b5, b6, b7, b8, b9, b10, b11, b12, b13, b14, b15, b16, b17, b18, b19⟩ := id hB
  have := b3 k; have := b7 k
  refine Ct.intro rfl (by decide) [.ref a, .int (nI k)] (by simp [Value.category]) (Nat.le_of_ble_eq_true rfl) rfl ?_
  refine w_aload_n dX1_workOf_0 rfl ?_
  refine w_getf dX1_workOf_1 fl_X1_15 (by first | assumption | exact gs_at | (rw [gs_ne (by omega)]; (first | assumption | exact gs_at | (rw [gs_ne (by omega)]; (first | assumption | exact gs_at | (rw [gs_ne (by omega)]; (first | assumption | exact gs_at | (rw [gs_ne (by omega)]; (first | assumption | exact gs_at))))))))) rfl ?_
  refine w_iload_n dX1_workOf_4 rfl ?_
  refine wN2u dX1_workOf_5 lk_X1_83 rfl (c_atN (by first | assumption | exact gs_at | (rw [gs_ne (by omega)]; (first | assumption | exact gs_at | (rw [gs_ne (by omega)]; (first | assumption | exact gs_at | (rw [gs_ne (by omega)]; (first | assumption | exact gs_at | (rw [gs_ne (by omega)]; (first | assumption | exact gs_at))))))))) (by omega) (by decide)) (Nat.le_of_ble_eq_true rfl) (Nat.le_of_ble_eq_true rfl) (Nat.le_of_ble_eq_true rfl) (Nat.le_of_ble_eq_true rfl) ?_
  refine w_aload_n dX1_workOf_8 rfl ?_
  refine w_getf dX1_workOf_9 fl_X1_27 (by first | assumption | exact gs_at | (rw [gs_ne (by omega)]; (first | assumption | exact gs_at | (rw [gs_ne (by omega)]; (first | assumption | exact gs_at | (rw [gs_ne (by omega)]; (first | assumption | exact gs_at | (rw [gs_ne (by omega)]; (first | assumption | exact gs_at))))))))) rfl ?_
  refine w_iload_n dX1_workOf_12 rfl ?_
  refine wN2u dX1_workOf_13 lk_X1_83 rfl (c_atN (by first | assumption | exact gs_at | (rw [gs_ne (by omega)]; (first | assumption | exact gs_at | (rw [gs_ne (by omega)]; (first | assumption | exact gs_at | (rw [gs_ne (by omega)]; (first | assumption | exact gs_at | (rw [gs_ne (by omega)]; (first | assumption | exact gs_at))))))))) (by omega) (by decide)) (Nat.le_of_ble_eq_true rfl) (Nat.le_of_ble_eq_true rfl) (Nat.le_of_ble_eq_true rfl) (Nat.le_of_ble_eq_true rfl) ?_
  refine wN2u dX1_workOf_16 lk_X1_93 rfl (c_steps (b2_ k) (b6 k)) (Nat.le_of_ble_eq_true rfl) (Nat.le_of_ble_eq_true rfl) (Nat.le_of_ble_eq_true rfl) (Nat.le_of_ble_eq_true rfl) ?_
  refine w_aload_n dX1_workOf_19 rfl ?_
  refine w_iload_n dX1_workOf_20 rfl ?_
  refine wV1u dX1_workOf_21 lk_X1_96 rfl (by first | assumption | exact gs_at | (rw [gs_ne (by omega)]; (first | assumption | exact gs_at | (rw [gs_ne (by omega)]; (first | assumption | exact gs_at | (rw [gs_ne (by omega)]; (first | assumption | exact gs_at | (rw [gs_ne (by omega)]; (first | assumption | exact gs_at))))))))) rfl rfl (c_worseBy hI hB hk) (Nat.le_of_ble_eq_true rfl) (Nat.le_of_ble_eq_true rfl) (Nat.le_of_ble_eq_true rfl) (Nat.le_of_ble_eq_true rfl) ?_
  refine w_iconst (v := nI 5) dX1_workOf_24 (by decide) ?_
  refine wN2u dX1_workOf_25 lk_X1_100 rfl (c_roundedUp (by unfold worN; omega) (by decide) (by decide)) (Nat.le_of_ble_eq_true rfl) (Nat.le_of_ble_eq_true rfl) (Nat.le_of_ble_eq_true rfl) (Nat.le_of_ble_eq_true rfl) ?_
  first | refine w_iaddN dX1_workOf_28 ?_ | refine w_iadd dX1_workOf_28 ?_
  refine w_iret dX1_workOf_29 rfl (Nat.le_of_ble_eq_true rfl) (Nat.le_of_ble_eq_true rfl) ?_
  exact ⟨rfl, rfl⟩
theorem lp_total {E : EV} {Q : OC → AH → Prop} {G : AH} {a len n d : Nat} {f : Nat → Nat} (hd : 2 ≤ d) (hG : G.1 a = some (aI len (fun i => nI (f i)))) (hn : n ≤ len) (hl : len < 2 ^ 31) (hQ : Q (.inl (some (.int (nI (sumN n f))))) G) : ∀ (k i : Nat), n - i < k → i ≤ n → Wp E d 0 0 kX7_total Q G (0, 0) 4 [.ref a, .int (nI n), .int (nI (sumN i f)), .int (nI i)] [] := by
  intro k
  induction k with
  | zero => intro i h; exact absurd h (by omega)
  | succ k ih =>
    intro i hk hi
    refine w_iload_n dX7_total_4 rfl ?_
    refine w_iload_n dX7_total_5 rfl ?_
    refine w_icmp_ge (tgt := 23) dX7_total_6 (by decide) (fun c_6 => ?_) (fun c_6 => ?_)
    · try simp (disch := omega) only [nI_b2, Decidable.not_not, nI_ltI, nI_leI, nI_eq, ge_iff_le, gt_iff_lt, ne_eq, Nat.not_lt, Nat.not_le] at c_6
      refine w_iload_n dX7_total_23 rfl ?_
      refine w_iret dX7_total_24 rfl (Nat.le_of_ble_eq_true rfl) (Nat.le_of_ble_eq_true rfl) ?_
      rw [show i = n by omega]
      exact hQ
    · try simp (disch := omega) only [nI_b2, Decidable.not_not, nI_ltI, nI_leI, nI_eq, ge_iff_le, gt_iff_lt, ne_eq, Nat.not_lt, Nat.not_le] at c_6
      refine w_iload_n dX7_total_9 rfl ?_
      refine w_aload_n dX7_total_10 rfl ?_
      refine w_iload_n dX7_total_11 rfl ?_
      refine wS2u dX7_total_12 lk_X7_137 rfl (c_atN hG (by omega) hl) hd (Nat.le_refl _) (Nat.le_refl _) (Nat.le_of_ble_eq_true rfl) ?_
      first | refine w_iaddN dX7_total_15 ?_ | refine w_iadd dX7_total_15 ?_
      refine w_istore_2 dX7_total_16 rfl ?_
      first | refine w_iinc_3 dX7_total_17 (nI_inc _) rfl ?_ | refine w_iinc_3 dX7_total_17 rfl rfl ?_
      refine w_goto (tgt := 4) dX7_total_20 (by decide) ?_
      exact ih (i + 1) (by omega) (by omega)
theorem c_total {E : EV} {a len n : Nat} {f : Nat → Nat} {G : AH} (hG : G.1 a = some (aI len (fun i => nI (f i)))) (hn : n ≤ len) (hl : len < 2 ^ 31) : Cu E 2 kX7_total [.ref a, .int (nI n)] G (.int (nI (sumN n f))) G := by
  refine Ct.intro rfl (by decide) [.ref a, .int (nI n), .float 0, .float 0] (by simp [Value.category]) (Nat.le_of_ble_eq_true rfl) rfl ?_
  refine w_iconst (v := nI 0) dX7_total_0 (by decide) ?_
  refine w_istore_2 dX7_total_1 rfl ?_
  refine w_iconst (v := nI 0) dX7_total_2 (by decide) ?_
  refine w_istore_3 dX7_total_3 rfl ?_
  exact lp_total (by decide) hG hn hl ⟨rfl, rfl⟩ (n + 1) 0 (by omega) (by omega)
theorem lp_workAll2 {E : EV} {Q : OC → AH → Prop} {a : Nat} {T : ST} {sd : Int32} {G : AH} (hI : Isl G a T sd) (hB : Bd T) (hQ : Q (.inl (some (.int (nI (sumN (T 12 0) (wrkN T) + sumN 6 (fun r => (T 7 r + 10 - 1) / 10)))))) G) : ∀ (k i : Nat), 6 - i < k → i ≤ 6 → Wp E 4 0 0 kX1_workOfAll Q G (0, 0) 28 [.ref a, .int (nI (sumN (T 12 0) (wrkN T) + sumN i (fun r => (T 7 r + 10 - 1) / 10))), .int (nI i)] [] := by
  obtain ⟨i0, i1, i2, i3, i4, i5, i6, i7, i8, i9, i10, i11, i12, i13⟩ := id hI
  obtain ⟨b0, b1, b2_, b3, b4, b5, b6, b7, b8, b9, b10, b11, b12, b13, b14, b15, b16, b17, b18, b19⟩ := id hB
  intro k
  induction k with
  | zero => intro i h; exact absurd h (by omega)
  | succ k ih =>
    intro i hk hi
    refine w_iload_n dX1_workOfAll_28 rfl ?_
    refine w_bipush (v := nI 6) dX1_workOfAll_29 (by decide) ?_
    refine w_icmp_ge (tgt := 56) dX1_workOfAll_31 (by decide) (fun c_31 => ?_) (fun c_31 => ?_)
    · try simp (disch := omega) only [nI_b2, Decidable.not_not, nI_ltI, nI_leI, nI_eq, ge_iff_le, gt_iff_lt, ne_eq, Nat.not_lt, Nat.not_le] at c_31
      refine w_iload_n dX1_workOfAll_56 rfl ?_
      refine w_iret dX1_workOfAll_57 rfl (Nat.le_of_ble_eq_true rfl) (Nat.le_of_ble_eq_true rfl) ?_
      have e : i = 6 := by omega
      subst e
      exact hQ
    · try simp (disch := omega) only [nI_b2, Decidable.not_not, nI_ltI, nI_leI, nI_eq, ge_iff_le, gt_iff_lt, ne_eq, Nat.not_lt, Nat.not_le] at c_31
      refine w_iload_n dX1_workOfAll_34 rfl ?_
      refine w_aload_n dX1_workOfAll_35 rfl ?_
      refine w_getf dX1_workOfAll_36 fl_X1_33 (by first | assumption | exact gs_at | (rw [gs_ne (by omega)]; (first | assumption | exact gs_at | (rw [gs_ne (by omega)]; (first | assumption | exact gs_at | (rw [gs_ne (by omega)]; (first | assumption | exact gs_at | (rw [gs_ne (by omega)]; (first | assumption | exact gs_at))))))))) rfl ?_
      refine w_iload_n dX1_workOfAll_39 rfl ?_
      refine wN2u dX1_workOfAll_40 lk_X1_83 rfl (c_atN (by first | assumption | exact gs_at | (rw [gs_ne (by omega)]; (first | assumption | exact gs_at | (rw [gs_ne (by omega)]; (first | assumption | exact gs_at | (rw [gs_ne (by omega)]; (first | assumption | exact gs_at | (rw [gs_ne (by omega)]; (first | assumption | exact gs_at))))))))) (by omega) (by decide)) (Nat.le_of_ble_eq_true rfl) (Nat.le_of_ble_eq_true rfl) (Nat.le_of_ble_eq_true rfl) (Nat.le_of_ble_eq_true rfl) ?_
      refine w_bipush (v := nI 10) dX1_workOfAll_43 (by decide) ?_
      refine wN2u dX1_workOfAll_45 lk_X1_100 rfl (c_roundedUp (by have := b8 i; omega) (by decide) (by decide)) (Nat.le_of_ble_eq_true rfl) (Nat.le_of_ble_eq_true rfl) (Nat.le_of_ble_eq_true rfl) (Nat.le_of_ble_eq_true rfl) ?_
      first | refine w_iaddN dX1_workOfAll_48 ?_ | refine w_iadd dX1_workOfAll_48 ?_
      refine w_istore_1 dX1_workOfAll_49 rfl ?_
      first | refine w_iinc_2 dX1_workOfAll_50 (nI_inc _) rfl ?_ | refine w_iinc_2 dX1_workOfAll_50 rfl rfl ?_
      refine w_goto (tgt := 28) dX1_workOfAll_53 (by decide) ?_
      have h9 := ih (i + 1) (by omega) (by omega)
      rw [sumN, ← Nat.add_assoc] at h9
      exact h9
theorem lp_workAll1 {E : EV} {Q : OC → AH → Prop} {a : Nat} {T : ST} {sd : Int32} {G : AH} (hI : Isl G a T sd) (hB : Bd T) (hQ : Q (.inl (some (.int (nI (sumN (T 12 0) (wrkN T) + sumN 6 (fun r => (T 7 r + 10 - 1) / 10)))))) G) : ∀ (k i : Nat), T 12 0 - i < k → i ≤ T 12 0 → Wp E 4 0 0 kX1_workOfAll Q G (0, 0) 4 [.ref a, .int (nI (sumN i (wrkN T))), .int (nI i)] [] := by
  obtain ⟨i0, i1, i2, i3, i4, i5, i6, i7, i8, i9, i10, i11, i12, i13⟩ := id hI
  obtain ⟨b0, b1, b2_, b3, b4, b5, b6, b7, b8, b9, b10, b11, b12, b13, b14, b15, b16, b17, b18, b19⟩ := id hB
  intro k
  induction k with
  | zero => intro i h; exact absurd h (by omega)
  | succ k ih =>
    intro i hk hi
    refine w_iload_n dX1_workOfAll_4 rfl ?_
    refine w_aload_n dX1_workOfAll_5 rfl ?_
    refine w_getf dX1_workOfAll_6 fl_X1_52 (by first | assumption | exact gs_at | (rw [gs_ne (by omega)]; (first | assumption | exact gs_at | (rw [gs_ne (by omega)]; (first | assumption | exact gs_at | (rw [gs_ne (by omega)]; (first | assumption | exact gs_at | (rw [gs_ne (by omega)]; (first | assumption | exact gs_at))))))))) rfl ?_
    refine w_icmp_ge (tgt := 26) dX1_workOfAll_9 (by decide) (fun c_9 => ?_) (fun c_9 => ?_)
    · try simp (disch := omega) only [nI_b2, Decidable.not_not, nI_ltI, nI_leI, nI_eq, ge_iff_le, gt_iff_lt, ne_eq, Nat.not_lt, Nat.not_le] at c_9
      refine w_iconst (v := nI 0) dX1_workOfAll_26 (by decide) ?_
      refine w_istore_2 dX1_workOfAll_27 rfl ?_
      have e : i = T 12 0 := by omega
      subst e
      exact lp_workAll2 hI hB hQ 7 0 (by omega) (by omega)
    · try simp (disch := omega) only [nI_b2, Decidable.not_not, nI_ltI, nI_leI, nI_eq, ge_iff_le, gt_iff_lt, ne_eq, Nat.not_lt, Nat.not_le] at c_9
      refine w_iload_n dX1_workOfAll_12 rfl ?_
      refine w_aload_n dX1_workOfAll_13 rfl ?_
      refine w_iload_n dX1_workOfAll_14 rfl ?_
      refine wV1u dX1_workOfAll_15 lk_X1_103 rfl (by first | assumption | exact gs_at | (rw [gs_ne (by omega)]; (first | assumption | exact gs_at | (rw [gs_ne (by omega)]; (first | assumption | exact gs_at | (rw [gs_ne (by omega)]; (first | assumption | exact gs_at | (rw [gs_ne (by omega)]; (first | assumption | exact gs_at))))))))) rfl rfl (c_workOf hI hB (by omega)) (Nat.le_of_ble_eq_true rfl) (Nat.le_of_ble_eq_true rfl) (Nat.le_of_ble_eq_true rfl) (Nat.le_of_ble_eq_true rfl) ?_
      first | refine w_iaddN dX1_workOfAll_18 ?_ | refine w_iadd dX1_workOfAll_18 ?_
      refine w_istore_1 dX1_workOfAll_19 rfl ?_
      first | refine w_iinc_2 dX1_workOfAll_20 (nI_inc _) rfl ?_ | refine w_iinc_2 dX1_workOfAll_20 rfl rfl ?_
      refine w_goto (tgt := 4) dX1_workOfAll_23 (by decide) ?_
      exact ih (i + 1) (by omega) (by omega)
def wkAll (T : ST) : Nat := sumN (T 12 0) (wrkN T) + sumN 6 (fun r => (T 7 r + 10 - 1) / 10)
theorem c_workOfAll {E : EV} {a : Nat} {T : ST} {sd : Int32} {G : AH} (hI : Isl G a T sd) (hB : Bd T) : Cu E 4 kX1_workOfAll [.ref a] G (.int (nI (wkAll T))) G := by
  obtain ⟨i0, i1, i2, i3, i4, i5, i6, i7, i8, i9, i10, i11, i12, i13⟩ := id hI
  obtain ⟨b0, b1, b2_, b3, b4, b5, b6, b7, b8, b9, b10, b11, b12, b13, b14, b15, b16, b17, b18, b19⟩ := id hB
  refine Ct.intro rfl (by decide) [.ref a, .float 0, .float 0] (by simp [Value.category]) (Nat.le_of_ble_eq_true rfl) rfl ?_
  refine w_iconst (v := nI 0) dX1_workOfAll_0 (by decide) ?_
  refine w_istore_1 dX1_workOfAll_1 rfl ?_
  refine w_iconst (v := nI 0) dX1_workOfAll_2 (by decide) ?_
  refine w_istore_2 dX1_workOfAll_3 rfl ?_
  exact lp_workAll1 hI hB ⟨rfl, rfl⟩ (T 12 0 + 1) 0 (by omega) (by omega)
