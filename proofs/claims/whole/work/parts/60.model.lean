/-! the model: its cell, what its row of numbers stands for; its small methods -/
abbrev mO (V : Nat) (th hi ac tp ba en at_ fa dp io ih we sh so : Int32) : HC := oB 8 [.int th, .ref (V + 1), .ref (V + 2), .int hi, .ref (V + 3), .ref (V + 4), .int ac, .ref (V + 5), .int tp, .int ba, .int en, .int at_, .int fa, .int dp, .ref (V + 6), .int io, .int ih, .int we, .int sh, .int so, .ref (V + 7), .ref (V + 8)]
def MoR (mm : Nat → Int32) (T : ST) (sd : Int32) : Prop := mm 0 = nI (T 12 1) ∧ mm 3 = nI (T 12 0) ∧ mm 4 = nI (T 12 3) ∧ mm 5 = nI (T 12 2) ∧ mm 6 = nI (T 12 4) ∧ (∀ s, s < 2 → mm (7 + s) = nI (T 9 s)) ∧ (∀ s, s < 2 → mm (9 + s) = nI (T 10 s)) ∧ mm 11 = nI (T 12 6) ∧ mm 12 = sd ∧ (∀ r, r < 6 → mm (14 + r) = nI (T 7 r)) ∧ (∀ r, r < 6 → mm (20 + r) = nI (T 8 r)) ∧ (∀ i w, i < 12 → w < 7 → mm (26 + 7 * i + w) = nI (T w i)) ∧ ∀ a w, a < T 12 6 → w < 4 → mm (110 + 4 * a + w) = nI (lgC T a w)
theorem b2_01 (p : Prop) [Decidable p] : narrow .boolean (.int (nI (b2 p))) = .int (nI (b2 p)) := b2_bool p
theorem mx_le {x : Int32} (h : nI 0 ≤ x) : (if nI 0 < x then x else nI 0) = x := by
  by_cases h2 : nI 0 < x
  · rw [if_pos h2]
  · rw [if_neg h2]; exact Int32.le_antisymm h (Int32.not_lt.mp h2)
abbrev inP (x a b : Int32) : Prop := ¬ x < a ∧ x ≤ b
theorem m_isIn {E : EV} {x a b : Int32} {G : AH}  : Cu E 1 kX8_isIn [.int x, .int a, .int b] G (.int (nI (b2 (inP x a b)))) G := by
  refine Ct.intro rfl (by decide) [.int x, .int a, .int b] (by simp [Value.category]) (Nat.le_of_ble_eq_true rfl) rfl ?_
  refine w_iload_n dX8_isIn_0 rfl ?_
  refine w_iload_n dX8_isIn_1 rfl ?_
  refine w_icmp_lt (tgt := 14) dX8_isIn_2 (by decide) (fun c_2 => ?_) (fun c_2 => ?_)
  · skip
    refine w_iconst (v := nI 0) dX8_isIn_14 (by decide) ?_
    refine w_zret dX8_isIn_15 rfl rfl (Nat.le_of_ble_eq_true rfl) (Nat.le_of_ble_eq_true rfl) ?_
    refine ⟨?_, rfl⟩
    first
      | (rw [b2, if_pos ⟨c_2, Int32.not_lt.mp c_7⟩]; done)
      | (rw [b2, if_neg (fun h => h.1 c_2)]; done)
      | (rw [b2, if_neg (fun h => Int32.not_lt.mpr h.2 c_7)]; done)
  · skip
    refine w_iload_n dX8_isIn_5 rfl ?_
    refine w_iload_n dX8_isIn_6 rfl ?_
    refine w_icmp_gt (tgt := 14) dX8_isIn_7 (by decide) (fun c_7 => ?_) (fun c_7 => ?_)
    · skip
      refine w_iconst (v := nI 0) dX8_isIn_14 (by decide) ?_
      refine w_zret dX8_isIn_15 rfl rfl (Nat.le_of_ble_eq_true rfl) (Nat.le_of_ble_eq_true rfl) ?_
      refine ⟨?_, rfl⟩
      first
        | (rw [b2, if_pos ⟨c_2, Int32.not_lt.mp c_7⟩]; done)
        | (rw [b2, if_neg (fun h => h.1 c_2)]; done)
        | (rw [b2, if_neg (fun h => Int32.not_lt.mpr h.2 c_7)]; done)
    · skip
      refine w_iconst (v := nI 1) dX8_isIn_10 (by decide) ?_
      refine w_goto (tgt := 15) dX8_isIn_11 (by decide) ?_
      refine w_zret dX8_isIn_15 rfl rfl (Nat.le_of_ble_eq_true rfl) (Nat.le_of_ble_eq_true rfl) ?_
      refine ⟨?_, rfl⟩
      first
        | (rw [b2, if_pos ⟨c_2, Int32.not_lt.mp c_7⟩]; done)
        | (rw [b2, if_neg (fun h => h.1 c_2)]; done)
        | (rw [b2, if_neg (fun h => Int32.not_lt.mpr h.2 c_7)]; done)
theorem m_lesser {E : EV} {a b : Nat} {G : AH} (ha : a < 2 ^ 31) (hb : b < 2 ^ 31) : Cu E 1 kX8_lesser [.int (nI a), .int (nI b)] G (.int (nI (min a b))) G := by
  refine Ct.intro rfl (by decide) [.int (nI a), .int (nI b)] (by simp [Value.category]) (Nat.le_of_ble_eq_true rfl) rfl ?_
  refine w_iload_n dX8_lesser_0 rfl ?_
  refine w_iload_n dX8_lesser_1 rfl ?_
  refine w_icmp_ge (tgt := 9) dX8_lesser_2 (by decide) (fun c_2 => ?_) (fun c_2 => ?_)
  · try simp (disch := omega) only [nI_b2, Decidable.not_not, nI_ltI, nI_leI, nI_eq, ge_iff_le, gt_iff_lt, ne_eq, Nat.not_lt, Nat.not_le] at c_2
    refine w_iload_n dX8_lesser_9 rfl ?_
    refine w_iret dX8_lesser_10 rfl (Nat.le_of_ble_eq_true rfl) (Nat.le_of_ble_eq_true rfl) ?_
    refine ⟨?_, rfl⟩
    first
      | (rw [Nat.min_eq_left (by omega)]; done)
      | (rw [Nat.min_eq_right (by omega)]; done)
  · try simp (disch := omega) only [nI_b2, Decidable.not_not, nI_ltI, nI_leI, nI_eq, ge_iff_le, gt_iff_lt, ne_eq, Nat.not_lt, Nat.not_le] at c_2
    refine w_iload_n dX8_lesser_5 rfl ?_
    refine w_goto (tgt := 10) dX8_lesser_6 (by decide) ?_
    refine w_iret dX8_lesser_10 rfl (Nat.le_of_ble_eq_true rfl) (Nat.le_of_ble_eq_true rfl) ?_
    refine ⟨?_, rfl⟩
    first
      | (rw [Nat.min_eq_left (by omega)]; done)
      | (rw [Nat.min_eq_right (by omega)]; done)
theorem m_greater {E : EV} {a b : Nat} {G : AH} (ha : a < 2 ^ 31) (hb : b < 2 ^ 31) : Cu E 1 kX8_greater [.int (nI a), .int (nI b)] G (.int (nI (max a b))) G := by
  refine Ct.intro rfl (by decide) [.int (nI a), .int (nI b)] (by simp [Value.category]) (Nat.le_of_ble_eq_true rfl) rfl ?_
  refine w_iload_n dX8_greater_0 rfl ?_
  refine w_iload_n dX8_greater_1 rfl ?_
  refine w_icmp_le (tgt := 9) dX8_greater_2 (by decide) (fun c_2 => ?_) (fun c_2 => ?_)
  · try simp (disch := omega) only [nI_b2, Decidable.not_not, nI_ltI, nI_leI, nI_eq, ge_iff_le, gt_iff_lt, ne_eq, Nat.not_lt, Nat.not_le] at c_2
    refine w_iload_n dX8_greater_9 rfl ?_
    refine w_iret dX8_greater_10 rfl (Nat.le_of_ble_eq_true rfl) (Nat.le_of_ble_eq_true rfl) ?_
    refine ⟨?_, rfl⟩
    first
      | (rw [Nat.max_eq_left (by omega)]; done)
      | (rw [Nat.max_eq_right (by omega)]; done)
  · try simp (disch := omega) only [nI_b2, Decidable.not_not, nI_ltI, nI_leI, nI_eq, ge_iff_le, gt_iff_lt, ne_eq, Nat.not_lt, Nat.not_le] at c_2
    refine w_iload_n dX8_greater_5 rfl ?_
    refine w_goto (tgt := 10) dX8_greater_6 (by decide) ?_
    refine w_iret dX8_greater_10 rfl (Nat.le_of_ble_eq_true rfl) (Nat.le_of_ble_eq_true rfl) ?_
    refine ⟨?_, rfl⟩
    first
      | (rw [Nat.max_eq_left (by omega)]; done)
      | (rw [Nat.max_eq_right (by omega)]; done)
theorem m_greater0 {E : EV} {a b : Nat} {G : AH} (ha : a < 2 ^ 30) (hb : b < 2 ^ 30) : Cu E 1 kX8_greater [.int (nI 0), .int (nI a - nI b)] G (.int (nI (a - b))) G := by
  refine Ct.intro rfl (by decide) [.int (nI 0), .int (nI a - nI b)] (by simp [Value.category]) (Nat.le_of_ble_eq_true rfl) rfl ?_
  refine w_iload_n dX8_greater_0 rfl ?_
  refine w_iload_n dX8_greater_1 rfl ?_
  refine w_icmp_le (tgt := 9) dX8_greater_2 (by decide) (fun c_2 => ?_) (fun c_2 => ?_)
  · skip
    refine w_iload_n dX8_greater_9 rfl ?_
    refine w_iret dX8_greater_10 rfl (Nat.le_of_ble_eq_true rfl) (Nat.le_of_ble_eq_true rfl) ?_
    refine ⟨?_, rfl⟩
    rw [← max0_sub ha hb]
    first
      | (rw [mx_le c_2]; done)
      | (rw [if_neg (fun h => c_2 (Int32.le_of_lt h))]; done)
  · skip
    refine w_iload_n dX8_greater_5 rfl ?_
    refine w_goto (tgt := 10) dX8_greater_6 (by decide) ?_
    refine w_iret dX8_greater_10 rfl (Nat.le_of_ble_eq_true rfl) (Nat.le_of_ble_eq_true rfl) ?_
    refine ⟨?_, rfl⟩
    rw [← max0_sub ha hb]
    first
      | (rw [mx_le c_2]; done)
      | (rw [if_neg (fun h => c_2 (Int32.le_of_lt h))]; done)
theorem m_isOf {E : EV} {s k : Nat} {G : AH} (hs : s < 2 ^ 31) (hk : k < 31) : Cu E 1 kX8_isOf [.int (nI s), .int (nI k)] G (.int (nI (b2 (s / 2 ^ k % 2 = 1)))) G := by
  refine Ct.intro rfl (by decide) [.int (nI s), .int (nI k)] (by simp [Value.category]) (Nat.le_of_ble_eq_true rfl) rfl ?_
  refine w_iload_n dX8_isOf_0 rfl ?_
  refine w_iload_n dX8_isOf_1 rfl ?_
  refine w_ishr dX8_isOf_2 ?_
  rw [nI_shr (by omega) (by omega)]
  refine w_iconst (v := nI 1) dX8_isOf_3 (by decide) ?_
  first | refine w_iandN dX8_isOf_4 ?_ | refine w_iand dX8_isOf_4 ?_
  rw [Nat.and_one_is_mod]
  have hm := Nat.mod_lt (s / 2 ^ k) (show 0 < 2 by decide)
  refine w_iconst (v := nI 1) dX8_isOf_5 (by decide) ?_
  refine w_icmp_ne (tgt := 13) dX8_isOf_6 (by decide) (fun c_6 => ?_) (fun c_6 => ?_)
  · try simp (disch := omega) only [nI_b2, Decidable.not_not, nI_ltI, nI_leI, nI_eq, ge_iff_le, gt_iff_lt, ne_eq, Nat.not_lt, Nat.not_le] at c_6
    refine w_iconst (v := nI 0) dX8_isOf_13 (by decide) ?_
    refine w_zret dX8_isOf_14 rfl rfl (Nat.le_of_ble_eq_true rfl) (Nat.le_of_ble_eq_true rfl) ?_
    refine ⟨?_, rfl⟩
    first
      | (rw [b2, if_pos (by omega)]; done)
      | (rw [b2, if_neg (by omega)]; done)
  · try simp (disch := omega) only [nI_b2, Decidable.not_not, nI_ltI, nI_leI, nI_eq, ge_iff_le, gt_iff_lt, ne_eq, Nat.not_lt, Nat.not_le] at c_6
    refine w_iconst (v := nI 1) dX8_isOf_9 (by decide) ?_
    refine w_goto (tgt := 14) dX8_isOf_10 (by decide) ?_
    refine w_zret dX8_isOf_14 rfl rfl (Nat.le_of_ble_eq_true rfl) (Nat.le_of_ble_eq_true rfl) ?_
    refine ⟨?_, rfl⟩
    first
      | (rw [b2, if_pos (by omega)]; done)
      | (rw [b2, if_neg (by omega)]; done)
theorem ml_bits {E : EV} {Q : OC → AH → Prop} {G : AH} {s : Nat} (hs : s < 2 ^ 31) (hQ : Q (.inl (some (.int (nI (cntN 31 s))))) G) : ∀ (k i : Nat), 31 - i < k → i ≤ 31 → Wp E 1 0 0 kX8_bits Q G (0, 0) 4 [.int (nI s), .int (nI (cntN i s)), .int (nI i)] [] := by
  intro k
  induction k with
  | zero => intro i h; exact absurd h (by omega)
  | succ k ih =>
    intro i hk hi
    refine w_iload_n dX8_bits_4 rfl ?_
    refine w_bipush (v := nI 31) dX8_bits_5 (by decide) ?_
    refine w_icmp_ge (tgt := 24) dX8_bits_7 (by decide) (fun c_7 => ?_) (fun c_7 => ?_)
    · try simp (disch := omega) only [nI_b2, Decidable.not_not, nI_ltI, nI_leI, nI_eq, ge_iff_le, gt_iff_lt, ne_eq, Nat.not_lt, Nat.not_le] at c_7
      refine w_iload_n dX8_bits_24 rfl ?_
      refine w_iret dX8_bits_25 rfl (Nat.le_of_ble_eq_true rfl) (Nat.le_of_ble_eq_true rfl) ?_
      have e : i = 31 := by omega
      subst e
      exact hQ
    · try simp (disch := omega) only [nI_b2, Decidable.not_not, nI_ltI, nI_leI, nI_eq, ge_iff_le, gt_iff_lt, ne_eq, Nat.not_lt, Nat.not_le] at c_7
      refine w_iload_n dX8_bits_10 rfl ?_
      refine w_iload_n dX8_bits_11 rfl ?_
      refine w_iload_n dX8_bits_12 rfl ?_
      refine w_ishr dX8_bits_13 ?_
      rw [nI_shr (by omega) (by omega)]
      refine w_iconst (v := nI 1) dX8_bits_14 (by decide) ?_
      first | refine w_iandN dX8_bits_15 ?_ | refine w_iand dX8_bits_15 ?_
      rw [Nat.and_one_is_mod]
      first | refine w_iaddN dX8_bits_16 ?_ | refine w_iadd dX8_bits_16 ?_
      refine w_istore_1 dX8_bits_17 rfl ?_
      first | refine w_iinc_2 dX8_bits_18 (nI_inc _) rfl ?_ | refine w_iinc_2 dX8_bits_18 rfl rfl ?_
      refine w_goto (tgt := 4) dX8_bits_21 (by decide) ?_
      have hN := ih (i + 1) (by omega) (by omega)
      rw [cntN] at hN
      exact hN
theorem m_bits31 {E : EV} {s : Nat} {G : AH} (hs : s < 2 ^ 31) : Cu E 1 kX8_bits [.int (nI s)] G (.int (nI (cntN 31 s))) G := by
  refine Ct.intro rfl (by decide) [.int (nI s), .float 0, .float 0] (by simp [Value.category]) (Nat.le_of_ble_eq_true rfl) rfl ?_
  refine w_iconst (v := nI 0) dX8_bits_0 (by decide) ?_
  refine w_istore_1 dX8_bits_1 rfl ?_
  refine w_iconst (v := nI 0) dX8_bits_2 (by decide) ?_
  refine w_istore_2 dX8_bits_3 rfl ?_
  exact ml_bits hs ⟨rfl, rfl⟩ 32 0 (by omega) (by omega)
theorem cnt_hi {s k : Nat} (h : s < 2 ^ k) : ∀ j, cntN (k + j) s = cntN k s
  | 0 => rfl
  | j + 1 => by
    have hd : s / 2 ^ (k + j) = 0 := Nat.div_eq_of_lt (Nat.lt_of_lt_of_le h (Nat.pow_le_pow_right (by decide) (Nat.le_add_right _ _)))
    rw [show k + (j + 1) = (k + j) + 1 by omega, cntN, cnt_hi h j, hd]; rfl
theorem m_bits {E : EV} {s : Nat} {G : AH} (hs : s < 4096) : Cu E 1 kX8_bits [.int (nI s)] G (.int (nI (cntN 12 s))) G := (m_bits31 (by omega)).v (by rw [show 31 = 12 + 19 from rfl, cnt_hi (show s < 2 ^ 12 by omega) 19])
theorem m_rounded {E : EV} {a b : Nat} {G : AH} (ha : a < 2 ^ 30) (hb : b < 2 ^ 30) (h0 : 0 < b) : Cu E 1 kX8_rounded [.int (nI a), .int (nI b)] G (.int (nI ((a + b - 1) / b))) G := by
  refine Ct.intro rfl (by decide) [.int (nI a), .int (nI b)] (by simp [Value.category]) (Nat.le_of_ble_eq_true rfl) rfl ?_
  refine w_iload_n dX8_rounded_0 rfl ?_
  refine w_iload_n dX8_rounded_1 rfl ?_
  first | refine w_iaddN dX8_rounded_2 ?_ | refine w_iadd dX8_rounded_2 ?_
  refine w_iconst (v := nI 1) dX8_rounded_3 (by decide) ?_
  refine w_isubN (by omega) dX8_rounded_4 ?_
  refine w_iload_n dX8_rounded_5 rfl ?_
  first | refine w_idivN (by omega) (by omega) (by omega) dX8_rounded_6 ?_ | refine w_idiv dX8_rounded_6 (by decide) ?_
  refine w_iret dX8_rounded_7 rfl (Nat.le_of_ble_eq_true rfl) (Nat.le_of_ble_eq_true rfl) ?_
  exact ⟨rfl, rfl⟩
theorem m_of {E : EV} {V : Nat} {th hi ac tp ba en at_ fa dp io hm_ we sh so : Int32} {mm : Nat → Int32} {T : ST} {sd : Int32} {G : AH} {i w : Nat} (hV : G.1 V = some (mO V th hi ac tp ba en at_ fa dp io hm_ we sh so)) (hm : G.1 (V + 1) = some (aI 750 mm)) (hR : MoR mm T sd) (hB : Bd T) (hi9 : i < 12) (hw : w < 7) : Cu E 1 kX8_of [.ref V, .int (nI i), .int (nI w)] G (.int (nI (T w i))) G := by
  obtain ⟨r0, r3, r4, r5, r6, r7, r9, r11, r12, r14, r20, r26, rL⟩ := id hR
  obtain ⟨b0, b1, b2_, b3, b4, b5, b6, b7, b8, b9, b10, b11, b12, b13, b14, b15, b16, b17, b18, b19⟩ := id hB
  refine Ct.intro rfl (by decide) [.ref V, .int (nI i), .int (nI w)] (by simp [Value.category]) (Nat.le_of_ble_eq_true rfl) rfl ?_
  refine w_aload_n dX8_of_0 rfl ?_
  refine w_getf dX8_of_1 fl_X8_7 (by first | assumption | exact gs_at | (rw [gs_ne (by omega)]; (first | assumption | exact gs_at | (rw [gs_ne (by omega)]; (first | assumption | exact gs_at | (rw [gs_ne (by omega)]; (first | assumption | exact gs_at | (rw [gs_ne (by omega)]; (first | assumption | exact gs_at))))))))) rfl ?_
  refine w_bipush (v := nI 26) dX8_of_4 (by decide) ?_
  refine w_bipush (v := nI 7) dX8_of_6 (by decide) ?_
  refine w_iload_n dX8_of_8 rfl ?_
  first | refine w_imulN dX8_of_9 ?_ | refine w_imul dX8_of_9 ?_
  first | refine w_iaddN dX8_of_10 ?_ | refine w_iadd dX8_of_10 ?_
  refine w_iload_n dX8_of_11 rfl ?_
  first | refine w_iaddN dX8_of_12 ?_ | refine w_iadd dX8_of_12 ?_
  refine w_iaload dX8_of_13 (by first | assumption | exact gs_at | (rw [gs_ne (by omega)]; (first | assumption | exact gs_at | (rw [gs_ne (by omega)]; (first | assumption | exact gs_at | (rw [gs_ne (by omega)]; (first | assumption | exact gs_at | (rw [gs_ne (by omega)]; (first | assumption | exact gs_at))))))))) (by first | assumption | exact vp_in_nI (by omega) (by omega) | exact vp_in_nI (by assumption) (by omega)) ?_
  rw [nI_clamp (by omega)]
  first | rw [r3] | rw [r4] | rw [r5] | rw [r6] | rw [r0] | rw [r11] | rw [r12] | rw [r7 _ (by omega)] | rw [r9 _ (by omega)] | rw [r14 _ (by omega)] | rw [r20 _ (by omega)] | rw [r26 _ _ (by omega) (by omega)] | skip
  refine w_iret dX8_of_14 rfl (Nat.le_of_ble_eq_true rfl) (Nat.le_of_ble_eq_true rfl) ?_
  exact ⟨rfl, rfl⟩
theorem m_put {E : EV} {V : Nat} {th hi ac tp ba en at_ fa dp io hm_ we sh so : Int32} {mm : Nat → Int32} {T : ST} {sd : Int32} {G : AH} {i w : Nat} {x : Int32} (hV : G.1 V = some (mO V th hi ac tp ba en at_ fa dp io hm_ we sh so)) (hm : G.1 (V + 1) = some (aI 750 mm)) (hR : MoR mm T sd) (hB : Bd T) (hi9 : i < 12) (hw : w < 7) : Cn E 1 kX8_put [.ref V, .int (nI i), .int (nI w), .int x] G (gs G (V + 1) (aI 750 (upd mm (26 + 7 * i + w) x))) := by
  obtain ⟨r0, r3, r4, r5, r6, r7, r9, r11, r12, r14, r20, r26, rL⟩ := id hR
  obtain ⟨b0, b1, b2_, b3, b4, b5, b6, b7, b8, b9, b10, b11, b12, b13, b14, b15, b16, b17, b18, b19⟩ := id hB
  refine Ct.intro rfl (by decide) [.ref V, .int (nI i), .int (nI w), .int x] (by simp [Value.category]) (Nat.le_of_ble_eq_true rfl) rfl ?_
  refine w_aload_n dX8_put_0 rfl ?_
  refine w_getf dX8_put_1 fl_X8_7 (by first | assumption | exact gs_at | (rw [gs_ne (by omega)]; (first | assumption | exact gs_at | (rw [gs_ne (by omega)]; (first | assumption | exact gs_at | (rw [gs_ne (by omega)]; (first | assumption | exact gs_at | (rw [gs_ne (by omega)]; (first | assumption | exact gs_at))))))))) rfl ?_
  refine w_bipush (v := nI 26) dX8_put_4 (by decide) ?_
  refine w_bipush (v := nI 7) dX8_put_6 (by decide) ?_
  refine w_iload_n dX8_put_8 rfl ?_
  first | refine w_imulN dX8_put_9 ?_ | refine w_imul dX8_put_9 ?_
  first | refine w_iaddN dX8_put_10 ?_ | refine w_iadd dX8_put_10 ?_
  refine w_iload_n dX8_put_11 rfl ?_
  first | refine w_iaddN dX8_put_12 ?_ | refine w_iadd dX8_put_12 ?_
  refine w_iload_n dX8_put_13 rfl ?_
  refine w_iastore dX8_put_14 (by first | assumption | exact gs_at | (rw [gs_ne (by omega)]; (first | assumption | exact gs_at | (rw [gs_ne (by omega)]; (first | assumption | exact gs_at | (rw [gs_ne (by omega)]; (first | assumption | exact gs_at | (rw [gs_ne (by omega)]; (first | assumption | exact gs_at))))))))) (by first | assumption | exact vp_in_nI (by omega) (by omega) | exact vp_in_nI (by assumption) (by omega)) ?_
  rw [nI_clamp (by omega)]
  refine w_vret dX8_put_15 rfl (Nat.le_of_ble_eq_true rfl) (Nat.le_of_ble_eq_true rfl) ?_
  exact ⟨rfl, rfl⟩
theorem okI_in {n : Nat} (hn : n ≤ 12) {x : Int32} : b2 (inP x (nI 0) (nI n - nI 1)) = b2 (okI n x) := by
  have e : (inP x (nI 0) (nI n - nI 1)) = (okI n x) := by
    unfold inP okI
    refine propext ⟨fun h => ⟨h.1, ?_⟩, fun h => ⟨h.1, ?_⟩⟩
    · rcases pk_ix x (show 20 < 2 ^ 31 by decide) with h1 | h1 | ⟨j, hj, h2⟩
      · exact absurd h1 h.1
      · have h3 := Int32.le_trans h1 h.2
        by_cases h0 : n = 0
        · subst h0; exact absurd h3 (by decide)
        · rw [pk_sub (by omega), nI_leI (by omega) (by omega)] at h3; omega
      · subst h2; have h3 := (hiL (show j < 2 ^ 30 by omega) (show n < 2 ^ 30 by omega)).mp h.2; exact nI_lt h3 (by omega)
    · obtain ⟨j, hj, h2⟩ := in_N (n := n) (by omega) h
      subst h2
      exact (hiL (by omega) (by omega)).mpr hj
  unfold b2
  by_cases h : okI n x
  · rw [if_pos h, if_pos (e ▸ h)]
  · rw [if_neg h, if_neg (fun h2 => h (e ▸ h2))]
theorem m_isItem {E : EV} {V : Nat} {th hi ac tp ba en at_ fa dp io hm_ we sh so : Int32} {mm : Nat → Int32} {T : ST} {sd : Int32} {G : AH} {x : Int32} (hV : G.1 V = some (mO V th hi ac tp ba en at_ fa dp io hm_ we sh so)) (hm : G.1 (V + 1) = some (aI 750 mm)) (hR : MoR mm T sd) (hB : Bd T)  : Cu E 2 kX8_isItem [.ref V, .int x] G (.int (nI (b2 (okI (T 12 0) x)))) G := by
  obtain ⟨r0, r3, r4, r5, r6, r7, r9, r11, r12, r14, r20, r26, rL⟩ := id hR
  obtain ⟨b0, b1, b2_, b3, b4, b5, b6, b7, b8, b9, b10, b11, b12, b13, b14, b15, b16, b17, b18, b19⟩ := id hB
  refine Ct.intro rfl (by decide) [.ref V, .int x] (by simp [Value.category]) (Nat.le_of_ble_eq_true rfl) rfl ?_
  refine w_iload_n dX8_isItem_0 rfl ?_
  refine w_iconst (v := nI 0) dX8_isItem_1 (by decide) ?_
  refine w_aload_n dX8_isItem_2 rfl ?_
  refine w_getf dX8_isItem_3 fl_X8_7 (by first | assumption | exact gs_at | (rw [gs_ne (by omega)]; (first | assumption | exact gs_at | (rw [gs_ne (by omega)]; (first | assumption | exact gs_at | (rw [gs_ne (by omega)]; (first | assumption | exact gs_at | (rw [gs_ne (by omega)]; (first | assumption | exact gs_at))))))))) rfl ?_
  refine w_iconst (v := nI 3) dX8_isItem_6 (by decide) ?_
  refine w_iaload dX8_isItem_7 (by first | assumption | exact gs_at | (rw [gs_ne (by omega)]; (first | assumption | exact gs_at | (rw [gs_ne (by omega)]; (first | assumption | exact gs_at | (rw [gs_ne (by omega)]; (first | assumption | exact gs_at | (rw [gs_ne (by omega)]; (first | assumption | exact gs_at))))))))) (by first | assumption | exact vp_in_nI (by omega) (by omega) | exact vp_in_nI (by assumption) (by omega)) ?_
  rw [nI_clamp (by omega)]
  first | rw [r3] | rw [r4] | rw [r5] | rw [r6] | rw [r0] | rw [r11] | rw [r12] | rw [r7 _ (by omega)] | rw [r9 _ (by omega)] | rw [r14 _ (by omega)] | rw [r20 _ (by omega)] | rw [r26 _ _ (by omega) (by omega)] | skip
  refine w_iconst (v := nI 1) dX8_isItem_8 (by decide) ?_
  refine w_isub dX8_isItem_9 ?_
  refine wS3u dX8_isItem_10 lk_X8_42 rfl (m_isIn) (Nat.le_of_ble_eq_true rfl) (Nat.le_of_ble_eq_true rfl) (Nat.le_of_ble_eq_true rfl) (Nat.le_of_ble_eq_true rfl) ?_
  refine w_zret dX8_isItem_13 rfl (b2_bool _) (Nat.le_of_ble_eq_true rfl) (Nat.le_of_ble_eq_true rfl) ?_
  refine ⟨?_, rfl⟩
  rw [okI_in b0]
theorem m_isRoom {E : EV} {x : Int32} {G : AH}  : Cu E 2 kX8_isRoom [.int x] G (.int (nI (b2 (okI 6 x)))) G := by
  refine Ct.intro rfl (by decide) [.int x] (by simp [Value.category]) (Nat.le_of_ble_eq_true rfl) rfl ?_
  refine w_iload_n dX8_isRoom_0 rfl ?_
  refine w_iconst (v := nI 0) dX8_isRoom_1 (by decide) ?_
  refine w_iconst (v := nI 5) dX8_isRoom_2 (by decide) ?_
  refine wS3u dX8_isRoom_3 lk_X8_42 rfl (m_isIn) (Nat.le_of_ble_eq_true rfl) (Nat.le_of_ble_eq_true rfl) (Nat.le_of_ble_eq_true rfl) (Nat.le_of_ble_eq_true rfl) ?_
  refine w_zret dX8_isRoom_6 rfl (b2_bool _) (Nat.le_of_ble_eq_true rfl) (Nat.le_of_ble_eq_true rfl) ?_
  refine ⟨?_, rfl⟩
  rw [show (nI 5 : Int32) = nI 6 - nI 1 from rfl, okI_in (by decide)]
theorem m_there {E : EV} {V : Nat} {th hi ac tp ba en at_ fa dp io hm_ we sh so : Int32} {mm : Nat → Int32} {T : ST} {sd : Int32} {G : AH}  (hV : G.1 V = some (mO V th hi ac tp ba en at_ fa dp io hm_ we sh so)) (hm : G.1 (V + 1) = some (aI 750 mm)) (hR : MoR mm T sd) (hB : Bd T)  : Cu E 1 kX8_there [.ref V] G (.int (nI (thereN T))) G := by
  obtain ⟨r0, r3, r4, r5, r6, r7, r9, r11, r12, r14, r20, r26, rL⟩ := id hR
  obtain ⟨b0, b1, b2_, b3, b4, b5, b6, b7, b8, b9, b10, b11, b12, b13, b14, b15, b16, b17, b18, b19⟩ := id hB
  refine Ct.intro rfl (by decide) [.ref V] (by simp [Value.category]) (Nat.le_of_ble_eq_true rfl) rfl ?_
  refine w_aload_n dX8_there_0 rfl ?_
  refine w_getf dX8_there_1 fl_X8_7 (by first | assumption | exact gs_at | (rw [gs_ne (by omega)]; (first | assumption | exact gs_at | (rw [gs_ne (by omega)]; (first | assumption | exact gs_at | (rw [gs_ne (by omega)]; (first | assumption | exact gs_at | (rw [gs_ne (by omega)]; (first | assumption | exact gs_at))))))))) rfl ?_
  refine w_iconst (v := nI 4) dX8_there_4 (by decide) ?_
  refine w_iaload dX8_there_5 (by first | assumption | exact gs_at | (rw [gs_ne (by omega)]; (first | assumption | exact gs_at | (rw [gs_ne (by omega)]; (first | assumption | exact gs_at | (rw [gs_ne (by omega)]; (first | assumption | exact gs_at | (rw [gs_ne (by omega)]; (first | assumption | exact gs_at))))))))) (by first | assumption | exact vp_in_nI (by omega) (by omega) | exact vp_in_nI (by assumption) (by omega)) ?_
  rw [nI_clamp (by omega)]
  first | rw [r3] | rw [r4] | rw [r5] | rw [r6] | rw [r0] | rw [r11] | rw [r12] | rw [r7 _ (by omega)] | rw [r9 _ (by omega)] | rw [r14 _ (by omega)] | rw [r20 _ (by omega)] | rw [r26 _ _ (by omega) (by omega)] | skip
  refine w_sipush (v := nI 364) dX8_there_6 (by decide) ?_
  first | refine w_iremN (by omega) (by omega) (by omega) dX8_there_9 ?_ | refine w_irem dX8_there_9 (by decide) ?_
  refine w_sipush (v := nI 182) dX8_there_10 (by decide) ?_
  refine w_icmp_ge (tgt := 20) dX8_there_13 (by decide) (fun c_13 => ?_) (fun c_13 => ?_)
  · try simp (disch := omega) only [nI_b2, Decidable.not_not, nI_ltI, nI_leI, nI_eq, ge_iff_le, gt_iff_lt, ne_eq, Nat.not_lt, Nat.not_le] at c_13
    refine w_iconst (v := nI 1) dX8_there_20 (by decide) ?_
    refine w_iret dX8_there_21 rfl (Nat.le_of_ble_eq_true rfl) (Nat.le_of_ble_eq_true rfl) ?_
    refine ⟨?_, rfl⟩
    first
      | (rw [thereN, if_pos (by omega)]; done)
      | (rw [thereN, if_neg (by omega)]; done)
  · try simp (disch := omega) only [nI_b2, Decidable.not_not, nI_ltI, nI_leI, nI_eq, ge_iff_le, gt_iff_lt, ne_eq, Nat.not_lt, Nat.not_le] at c_13
    refine w_iconst (v := nI 0) dX8_there_16 (by decide) ?_
    refine w_goto (tgt := 21) dX8_there_17 (by decide) ?_
    refine w_iret dX8_there_21 rfl (Nat.le_of_ble_eq_true rfl) (Nat.le_of_ble_eq_true rfl) ?_
    refine ⟨?_, rfl⟩
    first
      | (rw [thereN, if_pos (by omega)]; done)
      | (rw [thereN, if_neg (by omega)]; done)
theorem ml_soils {E : EV} {Q : OC → AH → Prop} {V : Nat} {th hi ac tp ba en at_ fa dp io hm_ we sh so : Int32} {mm : Nat → Int32} {T : ST} {sd : Int32} {G : AH}  (hV : G.1 V = some (mO V th hi ac tp ba en at_ fa dp io hm_ we sh so)) (hm : G.1 (V + 1) = some (aI 750 mm)) (hR : MoR mm T sd) (hB : Bd T) (hQ : Q (.inl (some (.int (nI (sumN 6 (T 7)))))) G) : ∀ (k i : Nat), 6 - i < k → i ≤ 6 → Wp E 1 0 0 kX8_soils Q G (0, 0) 4 [.ref V, .int (nI (sumN i (T 7))), .int (nI i)] [] := by
  obtain ⟨r0, r3, r4, r5, r6, r7, r9, r11, r12, r14, r20, r26, rL⟩ := id hR
  obtain ⟨b0, b1, b2_, b3, b4, b5, b6, b7, b8, b9, b10, b11, b12, b13, b14, b15, b16, b17, b18, b19⟩ := id hB
  intro k
  induction k with
  | zero => intro i h; exact absurd h (by omega)
  | succ k ih =>
    intro i hk hi
    refine w_iload_n dX8_soils_4 rfl ?_
    refine w_bipush (v := nI 6) dX8_soils_5 (by decide) ?_
    refine w_icmp_ge (tgt := 28) dX8_soils_7 (by decide) (fun c_7 => ?_) (fun c_7 => ?_)
    · try simp (disch := omega) only [nI_b2, Decidable.not_not, nI_ltI, nI_leI, nI_eq, ge_iff_le, gt_iff_lt, ne_eq, Nat.not_lt, Nat.not_le] at c_7
      refine w_iload_n dX8_soils_28 rfl ?_
      refine w_iret dX8_soils_29 rfl (Nat.le_of_ble_eq_true rfl) (Nat.le_of_ble_eq_true rfl) ?_
      have e : i = 6 := by omega
      subst e
      exact hQ
    · try simp (disch := omega) only [nI_b2, Decidable.not_not, nI_ltI, nI_leI, nI_eq, ge_iff_le, gt_iff_lt, ne_eq, Nat.not_lt, Nat.not_le] at c_7
      refine w_iload_n dX8_soils_10 rfl ?_
      refine w_aload_n dX8_soils_11 rfl ?_
      refine w_getf dX8_soils_12 fl_X8_7 (by first | assumption | exact gs_at | (rw [gs_ne (by omega)]; (first | assumption | exact gs_at | (rw [gs_ne (by omega)]; (first | assumption | exact gs_at | (rw [gs_ne (by omega)]; (first | assumption | exact gs_at | (rw [gs_ne (by omega)]; (first | assumption | exact gs_at))))))))) rfl ?_
      refine w_bipush (v := nI 14) dX8_soils_15 (by decide) ?_
      refine w_iload_n dX8_soils_17 rfl ?_
      first | refine w_iaddN dX8_soils_18 ?_ | refine w_iadd dX8_soils_18 ?_
      refine w_iaload dX8_soils_19 (by first | assumption | exact gs_at | (rw [gs_ne (by omega)]; (first | assumption | exact gs_at | (rw [gs_ne (by omega)]; (first | assumption | exact gs_at | (rw [gs_ne (by omega)]; (first | assumption | exact gs_at | (rw [gs_ne (by omega)]; (first | assumption | exact gs_at))))))))) (by first | assumption | exact vp_in_nI (by omega) (by omega) | exact vp_in_nI (by assumption) (by omega)) ?_
      rw [nI_clamp (by omega)]
      first | rw [r3] | rw [r4] | rw [r5] | rw [r6] | rw [r0] | rw [r11] | rw [r12] | rw [r7 _ (by omega)] | rw [r9 _ (by omega)] | rw [r14 _ (by omega)] | rw [r20 _ (by omega)] | rw [r26 _ _ (by omega) (by omega)] | skip
      first | refine w_iaddN dX8_soils_20 ?_ | refine w_iadd dX8_soils_20 ?_
      refine w_istore_1 dX8_soils_21 rfl ?_
      first | refine w_iinc_2 dX8_soils_22 (nI_inc _) rfl ?_ | refine w_iinc_2 dX8_soils_22 rfl rfl ?_
      refine w_goto (tgt := 4) dX8_soils_25 (by decide) ?_
      exact ih (i + 1) (by omega) (by omega)
theorem m_soils {E : EV} {V : Nat} {th hi ac tp ba en at_ fa dp io hm_ we sh so : Int32} {mm : Nat → Int32} {T : ST} {sd : Int32} {G : AH}  (hV : G.1 V = some (mO V th hi ac tp ba en at_ fa dp io hm_ we sh so)) (hm : G.1 (V + 1) = some (aI 750 mm)) (hR : MoR mm T sd) (hB : Bd T)  : Cu E 1 kX8_soils [.ref V] G (.int (nI (sumN 6 (T 7)))) G := by
  obtain ⟨r0, r3, r4, r5, r6, r7, r9, r11, r12, r14, r20, r26, rL⟩ := id hR
  obtain ⟨b0, b1, b2_, b3, b4, b5, b6, b7, b8, b9, b10, b11, b12, b13, b14, b15, b16, b17, b18, b19⟩ := id hB
  refine Ct.intro rfl (by decide) [.ref V, .float 0, .float 0] (by simp [Value.category]) (Nat.le_of_ble_eq_true rfl) rfl ?_
  refine w_iconst (v := nI 0) dX8_soils_0 (by decide) ?_
  refine w_istore_1 dX8_soils_1 rfl ?_
  refine w_iconst (v := nI 0) dX8_soils_2 (by decide) ?_
  refine w_istore_2 dX8_soils_3 rfl ?_
  exact ml_soils hV hm hR hB ⟨rfl, rfl⟩ 7 0 (by omega) (by omega)
theorem ml_together {E : EV} {Q : OC → AH → Prop} {V : Nat} {th hi ac tp ba en at_ fa dp io hm_ we sh so : Int32} {mm : Nat → Int32} {T : ST} {sd : Int32} {G : AH} {w : Nat} (hV : G.1 V = some (mO V th hi ac tp ba en at_ fa dp io hm_ we sh so)) (hm : G.1 (V + 1) = some (aI 750 mm)) (hR : MoR mm T sd) (hB : Bd T) (hw : w < 7) (hQ : Q (.inl (some (.int (nI (sumN (T 12 0) (T w)))))) G) : ∀ (k i : Nat), T 12 0 - i < k → i ≤ T 12 0 → Wp E 2 0 0 kX8_together Q G (0, 0) 4 [.ref V, .int (nI w), .int (nI (sumN i (T w))), .int (nI i)] [] := by
  obtain ⟨r0, r3, r4, r5, r6, r7, r9, r11, r12, r14, r20, r26, rL⟩ := id hR
  obtain ⟨b0, b1, b2_, b3, b4, b5, b6, b7, b8, b9, b10, b11, b12, b13, b14, b15, b16, b17, b18, b19⟩ := id hB
  intro k
  induction k with
  | zero => intro i h; exact absurd h (by omega)
  | succ k ih =>
    intro i hk hi
    refine w_iload_n dX8_together_4 rfl ?_
    refine w_aload_n dX8_together_5 rfl ?_
    refine w_getf dX8_together_6 fl_X8_7 (by first | assumption | exact gs_at | (rw [gs_ne (by omega)]; (first | assumption | exact gs_at | (rw [gs_ne (by omega)]; (first | assumption | exact gs_at | (rw [gs_ne (by omega)]; (first | assumption | exact gs_at | (rw [gs_ne (by omega)]; (first | assumption | exact gs_at))))))))) rfl ?_
    refine w_iconst (v := nI 3) dX8_together_9 (by decide) ?_
    refine w_iaload dX8_together_10 (by first | assumption | exact gs_at | (rw [gs_ne (by omega)]; (first | assumption | exact gs_at | (rw [gs_ne (by omega)]; (first | assumption | exact gs_at | (rw [gs_ne (by omega)]; (first | assumption | exact gs_at | (rw [gs_ne (by omega)]; (first | assumption | exact gs_at))))))))) (by first | assumption | exact vp_in_nI (by omega) (by omega) | exact vp_in_nI (by assumption) (by omega)) ?_
    rw [nI_clamp (by omega)]
    first | rw [r3] | rw [r4] | rw [r5] | rw [r6] | rw [r0] | rw [r11] | rw [r12] | rw [r7 _ (by omega)] | rw [r9 _ (by omega)] | rw [r14 _ (by omega)] | rw [r20 _ (by omega)] | rw [r26 _ _ (by omega) (by omega)] | skip
    refine w_icmp_ge (tgt := 29) dX8_together_11 (by decide) (fun c_11 => ?_) (fun c_11 => ?_)
    · try simp (disch := omega) only [nI_b2, Decidable.not_not, nI_ltI, nI_leI, nI_eq, ge_iff_le, gt_iff_lt, ne_eq, Nat.not_lt, Nat.not_le] at c_11
      refine w_iload_n dX8_together_29 rfl ?_
      refine w_iret dX8_together_30 rfl (Nat.le_of_ble_eq_true rfl) (Nat.le_of_ble_eq_true rfl) ?_
      have e : i = T 12 0 := by omega
      subst e
      exact hQ
    · try simp (disch := omega) only [nI_b2, Decidable.not_not, nI_ltI, nI_leI, nI_eq, ge_iff_le, gt_iff_lt, ne_eq, Nat.not_lt, Nat.not_le] at c_11
      refine w_iload_n dX8_together_14 rfl ?_
      refine w_aload_n dX8_together_15 rfl ?_
      refine w_iload_n dX8_together_16 rfl ?_
      refine w_iload_n dX8_together_17 rfl ?_
      refine wV2u dX8_together_18 lk_X8_46 rfl (by first | assumption | exact gs_at | (rw [gs_ne (by omega)]; (first | assumption | exact gs_at | (rw [gs_ne (by omega)]; (first | assumption | exact gs_at | (rw [gs_ne (by omega)]; (first | assumption | exact gs_at | (rw [gs_ne (by omega)]; (first | assumption | exact gs_at))))))))) rfl rfl (m_of hV hm hR hB (by omega) hw) (Nat.le_of_ble_eq_true rfl) (Nat.le_of_ble_eq_true rfl) (Nat.le_of_ble_eq_true rfl) (Nat.le_of_ble_eq_true rfl) ?_
      first | refine w_iaddN dX8_together_21 ?_ | refine w_iadd dX8_together_21 ?_
      refine w_istore_2 dX8_together_22 rfl ?_
      first | refine w_iinc_3 dX8_together_23 (nI_inc _) rfl ?_ | refine w_iinc_3 dX8_together_23 rfl rfl ?_
      refine w_goto (tgt := 4) dX8_together_26 (by decide) ?_
      exact ih (i + 1) (by omega) (by omega)
theorem m_together {E : EV} {V : Nat} {th hi ac tp ba en at_ fa dp io hm_ we sh so : Int32} {mm : Nat → Int32} {T : ST} {sd : Int32} {G : AH} {w : Nat} (hV : G.1 V = some (mO V th hi ac tp ba en at_ fa dp io hm_ we sh so)) (hm : G.1 (V + 1) = some (aI 750 mm)) (hR : MoR mm T sd) (hB : Bd T) (hw : w < 7) : Cu E 2 kX8_together [.ref V, .int (nI w)] G (.int (nI (sumN (T 12 0) (T w)))) G := by
  obtain ⟨r0, r3, r4, r5, r6, r7, r9, r11, r12, r14, r20, r26, rL⟩ := id hR
  obtain ⟨b0, b1, b2_, b3, b4, b5, b6, b7, b8, b9, b10, b11, b12, b13, b14, b15, b16, b17, b18, b19⟩ := id hB
  refine Ct.intro rfl (by decide) [.ref V, .int (nI w), .float 0, .float 0] (by simp [Value.category]) (Nat.le_of_ble_eq_true rfl) rfl ?_
  refine w_iconst (v := nI 0) dX8_together_0 (by decide) ?_
  refine w_istore_2 dX8_together_1 rfl ?_
  refine w_iconst (v := nI 0) dX8_together_2 (by decide) ?_
  refine w_istore_3 dX8_together_3 rfl ?_
  exact ml_together hV hm hR hB hw ⟨rfl, rfl⟩ (T 12 0 + 1) 0 (by omega) (by omega)
theorem m_isMissing {E : EV} {V : Nat} {th hi ac tp ba en at_ fa dp io hm_ we sh so : Int32} {mm : Nat → Int32} {T : ST} {sd : Int32} {G : AH} {i : Nat} (hV : G.1 V = some (mO V th hi ac tp ba en at_ fa dp io hm_ we sh so)) (hm : G.1 (V + 1) = some (aI 750 mm)) (hR : MoR mm T sd) (hB : Bd T) (hi9 : i < 12) : Cu E 2 kX8_isMissing [.ref V, .int (nI i)] G (.int (nI (b2 (T 1 i ≠ T 5 i)))) G := by
  obtain ⟨r0, r3, r4, r5, r6, r7, r9, r11, r12, r14, r20, r26, rL⟩ := id hR
  obtain ⟨b0, b1, b2_, b3, b4, b5, b6, b7, b8, b9, b10, b11, b12, b13, b14, b15, b16, b17, b18, b19⟩ := id hB
  refine Ct.intro rfl (by decide) [.ref V, .int (nI i)] (by simp [Value.category]) (Nat.le_of_ble_eq_true rfl) rfl ?_
  refine w_aload_n dX8_isMissing_0 rfl ?_
  refine w_iload_n dX8_isMissing_1 rfl ?_
  refine w_iconst (v := nI 1) dX8_isMissing_2 (by decide) ?_
  refine wV2u dX8_isMissing_3 lk_X8_46 rfl (by first | assumption | exact gs_at | (rw [gs_ne (by omega)]; (first | assumption | exact gs_at | (rw [gs_ne (by omega)]; (first | assumption | exact gs_at | (rw [gs_ne (by omega)]; (first | assumption | exact gs_at | (rw [gs_ne (by omega)]; (first | assumption | exact gs_at))))))))) rfl rfl (m_of (w := 1) hV hm hR hB hi9 (by decide)) (Nat.le_of_ble_eq_true rfl) (Nat.le_of_ble_eq_true rfl) (Nat.le_of_ble_eq_true rfl) (Nat.le_of_ble_eq_true rfl) ?_
  refine w_aload_n dX8_isMissing_6 rfl ?_
  refine w_iload_n dX8_isMissing_7 rfl ?_
  refine w_iconst (v := nI 5) dX8_isMissing_8 (by decide) ?_
  refine wV2u dX8_isMissing_9 lk_X8_46 rfl (by first | assumption | exact gs_at | (rw [gs_ne (by omega)]; (first | assumption | exact gs_at | (rw [gs_ne (by omega)]; (first | assumption | exact gs_at | (rw [gs_ne (by omega)]; (first | assumption | exact gs_at | (rw [gs_ne (by omega)]; (first | assumption | exact gs_at))))))))) rfl rfl (m_of (w := 5) hV hm hR hB hi9 (by decide)) (Nat.le_of_ble_eq_true rfl) (Nat.le_of_ble_eq_true rfl) (Nat.le_of_ble_eq_true rfl) (Nat.le_of_ble_eq_true rfl) ?_
  have := b2_ i; have := b6 i
  refine w_icmp_eq (tgt := 19) dX8_isMissing_12 (by decide) (fun c_12 => ?_) (fun c_12 => ?_)
  · try simp (disch := omega) only [nI_b2, Decidable.not_not, nI_ltI, nI_leI, nI_eq, ge_iff_le, gt_iff_lt, ne_eq, Nat.not_lt, Nat.not_le] at c_12
    refine w_iconst (v := nI 0) dX8_isMissing_19 (by decide) ?_
    refine w_zret dX8_isMissing_20 rfl rfl (Nat.le_of_ble_eq_true rfl) (Nat.le_of_ble_eq_true rfl) ?_
    refine ⟨?_, rfl⟩
    first
      | (rw [b2, if_pos c_12]; done)
      | (rw [b2, if_neg (fun h => h c_12)]; done)
  · try simp (disch := omega) only [nI_b2, Decidable.not_not, nI_ltI, nI_leI, nI_eq, ge_iff_le, gt_iff_lt, ne_eq, Nat.not_lt, Nat.not_le] at c_12
    refine w_iconst (v := nI 1) dX8_isMissing_15 (by decide) ?_
    refine w_goto (tgt := 20) dX8_isMissing_16 (by decide) ?_
    refine w_zret dX8_isMissing_20 rfl rfl (Nat.le_of_ble_eq_true rfl) (Nat.le_of_ble_eq_true rfl) ?_
    refine ⟨?_, rfl⟩
    first
      | (rw [b2, if_pos c_12]; done)
      | (rw [b2, if_neg (fun h => h c_12)]; done)
theorem m_worseBy {E : EV} {V : Nat} {th hi ac tp ba en at_ fa dp io hm_ we sh so : Int32} {mm : Nat → Int32} {T : ST} {sd : Int32} {G : AH} {i : Nat} (hV : G.1 V = some (mO V th hi ac tp ba en at_ fa dp io hm_ we sh so)) (hm : G.1 (V + 1) = some (aI 750 mm)) (hR : MoR mm T sd) (hB : Bd T) (hi9 : i < 12) : Cu E 2 kX8_worseBy [.ref V, .int (nI i)] G (.int (nI (worN T i))) G := by
  obtain ⟨r0, r3, r4, r5, r6, r7, r9, r11, r12, r14, r20, r26, rL⟩ := id hR
  obtain ⟨b0, b1, b2_, b3, b4, b5, b6, b7, b8, b9, b10, b11, b12, b13, b14, b15, b16, b17, b18, b19⟩ := id hB
  refine Ct.intro rfl (by decide) [.ref V, .int (nI i)] (by simp [Value.category]) (Nat.le_of_ble_eq_true rfl) rfl ?_
  refine w_iconst (v := nI 0) dX8_worseBy_0 (by decide) ?_
  refine w_aload_n dX8_worseBy_1 rfl ?_
  refine w_iload_n dX8_worseBy_2 rfl ?_
  refine w_iconst (v := nI 2) dX8_worseBy_3 (by decide) ?_
  refine wV2u dX8_worseBy_4 lk_X8_46 rfl (by first | assumption | exact gs_at | (rw [gs_ne (by omega)]; (first | assumption | exact gs_at | (rw [gs_ne (by omega)]; (first | assumption | exact gs_at | (rw [gs_ne (by omega)]; (first | assumption | exact gs_at | (rw [gs_ne (by omega)]; (first | assumption | exact gs_at))))))))) rfl rfl (m_of (w := 2) hV hm hR hB hi9 (by decide)) (Nat.le_of_ble_eq_true rfl) (Nat.le_of_ble_eq_true rfl) (Nat.le_of_ble_eq_true rfl) (Nat.le_of_ble_eq_true rfl) ?_
  refine w_aload_n dX8_worseBy_7 rfl ?_
  refine w_iload_n dX8_worseBy_8 rfl ?_
  refine w_bipush (v := nI 6) dX8_worseBy_9 (by decide) ?_
  refine wV2u dX8_worseBy_11 lk_X8_46 rfl (by first | assumption | exact gs_at | (rw [gs_ne (by omega)]; (first | assumption | exact gs_at | (rw [gs_ne (by omega)]; (first | assumption | exact gs_at | (rw [gs_ne (by omega)]; (first | assumption | exact gs_at | (rw [gs_ne (by omega)]; (first | assumption | exact gs_at))))))))) rfl rfl (m_of (w := 6) hV hm hR hB hi9 (by decide)) (Nat.le_of_ble_eq_true rfl) (Nat.le_of_ble_eq_true rfl) (Nat.le_of_ble_eq_true rfl) (Nat.le_of_ble_eq_true rfl) ?_
  have := b3 i; have := b7 i
  refine w_isub dX8_worseBy_14 ?_
  refine wS2u dX8_worseBy_15 lk_X8_219 rfl (m_greater0 (by omega) (by omega)) (Nat.le_of_ble_eq_true rfl) (Nat.le_of_ble_eq_true rfl) (Nat.le_of_ble_eq_true rfl) (Nat.le_of_ble_eq_true rfl) ?_
  refine w_iret dX8_worseBy_18 rfl (Nat.le_of_ble_eq_true rfl) (Nat.le_of_ble_eq_true rfl) ?_
  exact ⟨rfl, rfl⟩
theorem stp6 {a b : Nat} (ha : a < 6) (hb : b < 6) : min ((a + 6 - b) % 6) (6 - (a + 6 - b) % 6) = stN a b := by
  have h9 : ∀ a : Fin 6, ∀ b : Fin 6, min ((a.1 + 6 - b.1) % 6) (6 - (a.1 + 6 - b.1) % 6) = stN a.1 b.1 := by decide +kernel
  exact h9 ⟨a, ha⟩ ⟨b, hb⟩
theorem add_sub6 {a b : Nat} (ha : a < 6) (hb : b < 6) : nI a - nI b + nI 6 = nI (a + 6 - b) := by
  have h9 : ∀ a : Fin 6, ∀ b : Fin 6, nI a.1 - nI b.1 + nI 6 = nI (a.1 + 6 - b.1) := by decide +kernel
  exact h9 ⟨a, ha⟩ ⟨b, hb⟩
theorem m_stepsOf {E : EV} {a b : Nat} {G : AH} (ha : a < 6) (hb : b < 6) : Cu E 2 kX8_stepsOf [.int (nI a), .int (nI b)] G (.int (nI (stN a b))) G := by
  refine Ct.intro rfl (by decide) [.int (nI a), .int (nI b), .float 0] (by simp [Value.category]) (Nat.le_of_ble_eq_true rfl) rfl ?_
  refine w_iload_n dX8_stepsOf_0 rfl ?_
  refine w_iload_n dX8_stepsOf_1 rfl ?_
  refine w_isub dX8_stepsOf_2 ?_
  refine w_bipush (v := nI 6) dX8_stepsOf_3 (by decide) ?_
  refine w_iadd dX8_stepsOf_5 ?_
  rw [add_sub6 ha hb]
  refine w_bipush (v := nI 6) dX8_stepsOf_6 (by decide) ?_
  first | refine w_iremN (by omega) (by omega) (by omega) dX8_stepsOf_8 ?_ | refine w_irem dX8_stepsOf_8 (by decide) ?_
  refine w_istore_2 dX8_stepsOf_9 rfl ?_
  refine w_iload_n dX8_stepsOf_10 rfl ?_
  refine w_bipush (v := nI 6) dX8_stepsOf_11 (by decide) ?_
  refine w_iload_n dX8_stepsOf_13 rfl ?_
  refine w_isubN (by omega) dX8_stepsOf_14 ?_
  refine wS2u dX8_stepsOf_15 lk_X8_222 rfl (m_lesser (by omega) (by omega)) (Nat.le_of_ble_eq_true rfl) (Nat.le_of_ble_eq_true rfl) (Nat.le_of_ble_eq_true rfl) (Nat.le_of_ble_eq_true rfl) ?_
  refine w_iret dX8_stepsOf_18 rfl (Nat.le_of_ble_eq_true rfl) (Nat.le_of_ble_eq_true rfl) ?_
  refine ⟨?_, rfl⟩
  rw [stp6 ha hb]
theorem m_workOf {E : EV} {V : Nat} {th hi ac tp ba en at_ fa dp io hm_ we sh so : Int32} {mm : Nat → Int32} {T : ST} {sd : Int32} {G : AH} {i : Nat} (hV : G.1 V = some (mO V th hi ac tp ba en at_ fa dp io hm_ we sh so)) (hm : G.1 (V + 1) = some (aI 750 mm)) (hR : MoR mm T sd) (hB : Bd T) (hi9 : i < 12) : Cu E 3 kX8_workOf [.ref V, .int (nI i)] G (.int (nI (wrkN T i))) G := by
  obtain ⟨r0, r3, r4, r5, r6, r7, r9, r11, r12, r14, r20, r26, rL⟩ := id hR
  obtain ⟨b0, b1, b2_, b3, b4, b5, b6, b7, b8, b9, b10, b11, b12, b13, b14, b15, b16, b17, b18, b19⟩ := id hB
  refine Ct.intro rfl (by decide) [.ref V, .int (nI i)] (by simp [Value.category]) (Nat.le_of_ble_eq_true rfl) rfl ?_
  refine w_aload_n dX8_workOf_0 rfl ?_
  refine w_iload_n dX8_workOf_1 rfl ?_
  refine w_iconst (v := nI 1) dX8_workOf_2 (by decide) ?_
  refine wV2u dX8_workOf_3 lk_X8_46 rfl (by first | assumption | exact gs_at | (rw [gs_ne (by omega)]; (first | assumption | exact gs_at | (rw [gs_ne (by omega)]; (first | assumption | exact gs_at | (rw [gs_ne (by omega)]; (first | assumption | exact gs_at | (rw [gs_ne (by omega)]; (first | assumption | exact gs_at))))))))) rfl rfl (m_of (w := 1) hV hm hR hB hi9 (by decide)) (Nat.le_of_ble_eq_true rfl) (Nat.le_of_ble_eq_true rfl) (Nat.le_of_ble_eq_true rfl) (Nat.le_of_ble_eq_true rfl) ?_
  refine w_aload_n dX8_workOf_6 rfl ?_
  refine w_iload_n dX8_workOf_7 rfl ?_
  refine w_iconst (v := nI 5) dX8_workOf_8 (by decide) ?_
  refine wV2u dX8_workOf_9 lk_X8_46 rfl (by first | assumption | exact gs_at | (rw [gs_ne (by omega)]; (first | assumption | exact gs_at | (rw [gs_ne (by omega)]; (first | assumption | exact gs_at | (rw [gs_ne (by omega)]; (first | assumption | exact gs_at | (rw [gs_ne (by omega)]; (first | assumption | exact gs_at))))))))) rfl rfl (m_of (w := 5) hV hm hR hB hi9 (by decide)) (Nat.le_of_ble_eq_true rfl) (Nat.le_of_ble_eq_true rfl) (Nat.le_of_ble_eq_true rfl) (Nat.le_of_ble_eq_true rfl) ?_
  have := b3 i
  refine wS2u dX8_workOf_12 lk_X8_225 rfl (m_stepsOf (b2_ i) (b6 i)) (Nat.le_of_ble_eq_true rfl) (Nat.le_of_ble_eq_true rfl) (Nat.le_of_ble_eq_true rfl) (Nat.le_of_ble_eq_true rfl) ?_
  refine w_aload_n dX8_workOf_15 rfl ?_
  refine w_iload_n dX8_workOf_16 rfl ?_
  refine wV1u dX8_workOf_17 lk_X8_228 rfl (by first | assumption | exact gs_at | (rw [gs_ne (by omega)]; (first | assumption | exact gs_at | (rw [gs_ne (by omega)]; (first | assumption | exact gs_at | (rw [gs_ne (by omega)]; (first | assumption | exact gs_at | (rw [gs_ne (by omega)]; (first | assumption | exact gs_at))))))))) rfl rfl (m_worseBy hV hm hR hB hi9) (Nat.le_of_ble_eq_true rfl) (Nat.le_of_ble_eq_true rfl) (Nat.le_of_ble_eq_true rfl) (Nat.le_of_ble_eq_true rfl) ?_
  refine w_iconst (v := nI 5) dX8_workOf_20 (by decide) ?_
  refine wS2u dX8_workOf_21 lk_X8_231 rfl (m_rounded (show worN T i < 2 ^ 30 by unfold worN; omega) (by decide) (by decide)) (Nat.le_of_ble_eq_true rfl) (Nat.le_of_ble_eq_true rfl) (Nat.le_of_ble_eq_true rfl) (Nat.le_of_ble_eq_true rfl) ?_
  first | refine w_iaddN dX8_workOf_24 ?_ | refine w_iadd dX8_workOf_24 ?_
  refine w_iret dX8_workOf_25 rfl (Nat.le_of_ble_eq_true rfl) (Nat.le_of_ble_eq_true rfl) ?_
  exact ⟨rfl, rfl⟩
