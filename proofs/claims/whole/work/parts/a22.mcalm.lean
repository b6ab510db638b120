/-! the model: calm -/
def odW (p q s : Nat) : Nat → Nat | 0 => 1 | i + 1 => odW p q s i * (if s / 2 ^ i % 2 = 1 then p else q)
def cmS (p q n : Nat) (k : Int32) : Nat → Nat | 0 => 0 | s + 1 => if nI (cntN 12 s) < k then cmS p q n k s else cmS p q n k s + odW p q s n
def cmB (p q n : Nat) (r : Nat → Bool) (m : Nat) : Nat := sumN m (fun s => if r (cntN 12 s) = true then odW p q s n else 0)
def tmB (p q n c : Nat) : Nat := clW n c * p ^ c * q ^ (n - c)
def clB (p q n : Nat) (r : Nat → Bool) (m : Nat) : Nat := sumN m (fun c => if r c = true then tmB p q n c else 0)
theorem cmS_B (p q n : Nat) (k : Int32) : ∀ m, cmS p q n k m = cmB p q n (fun c => decide (¬ nI c < k)) m
  | 0 => rfl
  | m + 1 => by
    show (if nI (cntN 12 m) < k then cmS p q n k m else cmS p q n k m + odW p q m n) = cmB p q n (fun c => decide (¬ nI c < k)) m + (if decide (¬ nI (cntN 12 m) < k) = true then odW p q m n else 0)
    rw [cmS_B p q n k m]
    by_cases h : nI (cntN 12 m) < k
    · rw [if_pos h, if_neg (by simpa using h)]; rfl
    · rw [if_neg h, if_pos (by simpa using h)]
theorem clF_B (p q n : Nat) (k : Int32) : ∀ m, clF p q n k m = clB p q n (fun c => decide (¬ nI c < k)) m
  | 0 => rfl
  | m + 1 => by
    show (if nI m < k then clF p q n k m else clF p q n k m + clW n m * p ^ m * q ^ (n - m)) = clB p q n (fun c => decide (¬ nI c < k)) m + (if decide (¬ nI m < k) = true then tmB p q n m else 0)
    rw [clF_B p q n k m]
    by_cases h : nI m < k
    · rw [if_pos h, if_neg (by simpa using h)]; rfl
    · rw [if_neg h, if_pos (by simpa using h)]; rfl
theorem sumN_split (f : Nat → Nat) (m : Nat) : ∀ j, sumN (m + j) f = sumN m f + sumN j (fun i => f (m + i))
  | 0 => rfl
  | j + 1 => by
    show sumN (m + j) f + f (m + j) = sumN m f + (sumN j (fun i => f (m + i)) + f (m + j))
    rw [sumN_split f m j, Nat.add_assoc]
theorem sumN_front (f : Nat → Nat) : ∀ m, sumN (m + 1) f = f 0 + sumN m (fun i => f (i + 1))
  | 0 => Nat.zero_add _
  | m + 1 => by
    show sumN (m + 1) f + f (m + 1) = f 0 + (sumN m (fun i => f (i + 1)) + f (m + 1))
    rw [sumN_front f m, Nat.add_assoc]
theorem sumN_mul (c : Nat) (f : Nat → Nat) : ∀ m, sumN m (fun i => c * f i) = c * sumN m f
  | 0 => (Nat.mul_zero c).symm
  | m + 1 => by
    show sumN m (fun i => c * f i) + c * f m = c * (sumN m f + f m)
    rw [sumN_mul c f m, Nat.mul_add]
theorem bit_add {n i s : Nat} (h : i < n) : (2 ^ n + s) / 2 ^ i % 2 = s / 2 ^ i % 2 := by
  have e : 2 ^ n = 2 ^ i * (2 * 2 ^ (n - i - 1)) := by
    rw [← Nat.pow_succ', ← Nat.pow_add]; congr 1; omega
  rw [e, Nat.mul_add_div (Nat.pow_pos (by decide))]
  omega
theorem cnt_add (n : Nat) (s : Nat) : ∀ j, j ≤ n → cntN j (2 ^ n + s) = cntN j s
  | 0, _ => rfl
  | j + 1, h => by rw [cntN, cntN, cnt_add n s j (by omega), bit_add (by omega)]
theorem cnt_top {n s : Nat} (hn : n < 12) (hs : s < 2 ^ n) : cntN 12 (2 ^ n + s) = cntN 12 s + 1 := by
  have h1 : 2 ^ n + s < 2 ^ (n + 1) := by rw [Nat.pow_succ]; omega
  have e1 : cntN 12 (2 ^ n + s) = cntN (n + 1) (2 ^ n + s) := by have := cnt_hi h1 (12 - (n + 1)); rwa [show n + 1 + (12 - (n + 1)) = 12 by omega] at this
  have e2 : cntN 12 s = cntN n s := by have := cnt_hi hs (12 - n); rwa [show n + (12 - n) = 12 by omega] at this
  have e3 : (2 ^ n + s) / 2 ^ n % 2 = 1 := by
    rw [show 2 ^ n + s = s + 2 ^ n * 1 by omega, Nat.add_mul_div_left _ _ (Nat.pow_pos (by decide)), Nat.div_eq_of_lt hs]
  rw [e1, e2, cntN, cnt_add n s n (Nat.le_refl _), e3]
theorem od_add (p q n s : Nat) : ∀ j, j ≤ n → odW p q (2 ^ n + s) j = odW p q s j
  | 0, _ => rfl
  | j + 1, h => by rw [odW, odW, od_add p q n s j (by omega), bit_add (by omega)]
theorem od_lo {p q n s : Nat} (hs : s < 2 ^ n) : odW p q s (n + 1) = q * odW p q s n := by
  rw [odW, Nat.div_eq_of_lt hs, if_neg (by decide), Nat.mul_comm]
theorem od_hi {p q n s : Nat} (hs : s < 2 ^ n) : odW p q (2 ^ n + s) (n + 1) = p * odW p q s n := by
  have e3 : (2 ^ n + s) / 2 ^ n % 2 = 1 := by
    rw [show 2 ^ n + s = s + 2 ^ n * 1 by omega, Nat.add_mul_div_left _ _ (Nat.pow_pos (by decide)), Nat.div_eq_of_lt hs]
  rw [odW, e3, if_pos rfl, od_add p q n s n (Nat.le_refl _), Nat.mul_comm]
theorem cmB_step {p q n : Nat} (hn : n < 12) (r : Nat → Bool) : cmB p q (n + 1) r (2 ^ (n + 1)) = q * cmB p q n r (2 ^ n) + p * cmB p q n (fun c => r (c + 1)) (2 ^ n) := by
  unfold cmB
  rw [show 2 ^ (n + 1) = 2 ^ n + 2 ^ n by rw [Nat.pow_succ]; omega, sumN_split, ← sumN_mul, ← sumN_mul]
  congr 1
  · refine sumN_cg _ (fun s hs => ?_)
    rw [od_lo hs]
    split <;> simp
  · refine sumN_cg _ (fun s hs => ?_)
    rw [od_hi hs, cnt_top hn hs]
    split <;> simp
theorem clW_P : ∀ n : Fin 6, ∀ c : Fin 7, clW (n.1 + 1) (c.1 + 1) = clW n.1 (c.1 + 1) + clW n.1 c.1 := by decide +kernel
theorem clW_0 : ∀ n : Fin 7, clW n.1 (n.1 + 1) = 0 := by decide +kernel
theorem tmB_step {p q n c : Nat} (hn : n < 6) (hc : c ≤ n) : tmB p q (n + 1) (c + 1) = q * tmB p q n (c + 1) + p * tmB p q n c := by
  have h1 := clW_P ⟨n, hn⟩ ⟨c, by omega⟩
  have h1 : clW (n + 1) (c + 1) = clW n (c + 1) + clW n c := h1
  unfold tmB
  rw [h1, show n + 1 - (c + 1) = n - c by omega]
  by_cases hcn : c = n
  · subst hcn
    have h0 : clW c (c + 1) = 0 := clW_0 ⟨c, by omega⟩
    rw [h0, Nat.sub_self, Nat.pow_succ]
    simp [Nat.mul_comm, Nat.mul_left_comm, Nat.mul_assoc]
  · rw [show n - c = (n - (c + 1)) + 1 by omega, Nat.pow_succ, Nat.pow_succ]
    simp only [Nat.add_mul]
    congr 1
    · simp only [Nat.mul_comm, Nat.mul_left_comm, Nat.mul_assoc]
    · simp only [Nat.mul_comm, Nat.mul_left_comm, Nat.mul_assoc]
theorem clB_step {p q n : Nat} (hn : n < 6) (r : Nat → Bool) : clB p q (n + 1) r (n + 1 + 1) = q * clB p q n r (n + 1) + p * clB p q n (fun c => r (c + 1)) (n + 1) := by
  have h0 : clW n (n + 1) = 0 := clW_0 ⟨n, by omega⟩
  have hq : q * clB p q n r (n + 1) = (if r 0 = true then tmB p q (n + 1) 0 else 0) + sumN (n + 1) (fun c => if r (c + 1) = true then q * tmB p q n (c + 1) else 0) := by
    unfold clB
    rw [sumN_front, Nat.mul_add]
    congr 1
    · by_cases h : r 0 = true
      · rw [if_pos h, if_pos h]; unfold tmB; rw [Nat.sub_zero, Nat.sub_zero, Nat.pow_succ]; simp only [clW]; simp [Nat.mul_comm, Nat.mul_left_comm, Nat.mul_assoc]
      · rw [if_neg h, if_neg h, Nat.mul_zero]
    · rw [← sumN_mul]
      show _ = sumN n _ + (if r (n + 1) = true then q * tmB p q n (n + 1) else 0)
      have e : (if r (n + 1) = true then q * tmB p q n (n + 1) else 0) = 0 := by
        unfold tmB; rw [h0]; split <;> simp
      rw [e, Nat.add_zero]
      refine sumN_cg _ (fun c hc => ?_)
      split <;> simp
  rw [hq]
  unfold clB
  rw [sumN_front, ← sumN_mul, Nat.add_assoc, ← sumN_add]
  congr 1
  refine sumN_cg _ (fun c hc => ?_)
  rw [tmB_step hn (by omega)]
  split <;> simp
theorem calm_eq (p q : Nat) : ∀ n, n ≤ 6 → ∀ r : Nat → Bool, cmB p q n r (2 ^ n) = clB p q n r (n + 1)
  | 0, _, r => by
    show 0 + (if r (cntN 12 0) = true then odW p q 0 0 else 0) = 0 + (if r 0 = true then tmB p q 0 0 else 0)
    have e : cntN 12 0 = 0 := by decide
    rw [e]; rfl
  | n + 1, h, r => by rw [cmB_step (by omega), clB_step (by omega), calm_eq p q n (by omega), calm_eq p q n (by omega)]
theorem cmS_eq {p q n : Nat} (k : Int32) (hn : n ≤ 6) : cmS p q n k (1 * 2 ^ n) = clF p q n k (n + 1) := by
  rw [Nat.one_mul, cmS_B, clF_B, calm_eq p q n hn]
theorem ml_calmI {E : EV} {Q : OC → AH → Prop} {V : Nat} {th hi ac tp ba en at_ fa dp io hm_ we sh so : Int32} {mm : Nat → Int32} {T : ST} {sd : Int32} {G : AH} {n : Nat} {kk : Int32} {s A S : Nat} (hV : G.1 V = some (mO V th hi ac tp ba en at_ fa dp io hm_ we sh so)) (hm : G.1 (V + 1) = some (aI 750 mm)) (hR : MoR mm T sd) (hB : Bd T) (hn : n ≤ 6) (hs : s < 64) (hk : Wp E 2 0 0 kX8_calm Q G (0, 0) 132 [.ref V, .int (nI n), .int kk, .long (lN (S)), .float 0, .long (lN (A)), .float 0, .int (nI (s)), .long (lN (odW (100 - T 12 2) (T 12 2) s n)), .float 0, .int (nI n)] []) : ∀ (k i : Nat), n - i < k → i ≤ n → Wp E 2 0 0 kX8_calm Q G (0, 0) 85 [.ref V, .int (nI n), .int kk, .long (lN (S)), .float 0, .long (lN (A)), .float 0, .int (nI (s)), .long (lN (odW (100 - T 12 2) (T 12 2) s i)), .float 0, .int (nI i)] [] := by
  obtain ⟨r0, r3, r4, r5, r6, r7, r9, r11, r12, r14, r20, r26, rL⟩ := id hR
  obtain ⟨b0, b1, b2_, b3, b4, b5, b6, b7, b8, b9, b10, b11, b12, b13, b14, b15, b16, b17, b18, b19⟩ := id hB
  intro k
  induction k with
  | zero => intro i h; exact absurd h (by omega)
  | succ k ih =>
    intro i hk9 hi9
    refine w_iload dX8_calm_85 rfl ?_
    refine w_iload_n dX8_calm_87 rfl ?_
    refine w_icmp_ge (tgt := 132) dX8_calm_88 (by decide) (fun c_88 => ?_) (fun c_88 => ?_)
    · try simp (disch := omega) only [nI_b2, Decidable.not_not, nI_ltI, nI_leI, nI_eq, ge_iff_le, gt_iff_lt, ne_eq, Nat.not_lt, Nat.not_le] at c_88
      have e : i = n := by omega
      subst e
      exact hk
    · try simp (disch := omega) only [nI_b2, Decidable.not_not, nI_ltI, nI_leI, nI_eq, ge_iff_le, gt_iff_lt, ne_eq, Nat.not_lt, Nat.not_le] at c_88
      refine w_lload dX8_calm_91 rfl ?_
      refine w_iload dX8_calm_93 rfl ?_
      refine w_iload dX8_calm_95 rfl ?_
      refine wS2u dX8_calm_97 lk_X8_240 rfl (m_isOf (s := s) (k := i) (by omega) (by omega)) (Nat.le_of_ble_eq_true rfl) (Nat.le_of_ble_eq_true rfl) (Nat.le_of_ble_eq_true rfl) (Nat.le_of_ble_eq_true rfl) ?_
      refine w_ifN_eq (tgt := 116) dX8_calm_100 (by decide) (fun c_100 => ?_) (fun c_100 => ?_)
      · try simp (disch := omega) only [nI_b2, Decidable.not_not, nI_ltI, nI_leI, nI_eq, ge_iff_le, gt_iff_lt, ne_eq, Nat.not_lt, Nat.not_le] at c_100
        refine w_aload_n dX8_calm_116 rfl ?_
        refine w_getf dX8_calm_117 fl_X8_7 (by first | assumption | exact gs_at | (rw [gs_ne (by omega)]; (first | assumption | exact gs_at | (rw [gs_ne (by omega)]; (first | assumption | exact gs_at | (rw [gs_ne (by omega)]; (first | assumption | exact gs_at | (rw [gs_ne (by omega)]; (first | assumption | exact gs_at))))))))) rfl ?_
        refine w_iconst (v := nI 5) dX8_calm_120 (by decide) ?_
        refine w_iaload dX8_calm_121 (by first | assumption | exact gs_at | (rw [gs_ne (by omega)]; (first | assumption | exact gs_at | (rw [gs_ne (by omega)]; (first | assumption | exact gs_at | (rw [gs_ne (by omega)]; (first | assumption | exact gs_at | (rw [gs_ne (by omega)]; (first | assumption | exact gs_at))))))))) (by first | assumption | exact vp_in_nI (by omega) (by omega) | exact vp_in_nI (by assumption) (by omega)) ?_
        rw [nI_clamp (by omega)]
        rw [r5]
        first | refine w_i2lN (by omega) dX8_calm_122 ?_ | refine w_i2l dX8_calm_122 ?_
        first | refine w_lmulN dX8_calm_123 ?_ | refine w_lmul dX8_calm_123 ?_
        refine w_lstore_8 dX8_calm_124 rfl ?_
        first | refine w_iinc_10 dX8_calm_126 (nI_inc _) rfl ?_ | refine w_iinc_10 dX8_calm_126 rfl rfl ?_
        refine w_goto (tgt := 85) dX8_calm_129 (by decide) ?_
        have hN := ih (i + 1) (by omega) (by omega)
        rw [odW] at hN
        first
          | (rw [if_pos c_100] at hN; exact hN)
          | (rw [if_neg c_100] at hN; exact hN)
      · try simp (disch := omega) only [nI_b2, Decidable.not_not, nI_ltI, nI_leI, nI_eq, ge_iff_le, gt_iff_lt, ne_eq, Nat.not_lt, Nat.not_le] at c_100
        refine w_bipush (v := nI 100) dX8_calm_103 (by decide) ?_
        refine w_aload_n dX8_calm_105 rfl ?_
        refine w_getf dX8_calm_106 fl_X8_7 (by first | assumption | exact gs_at | (rw [gs_ne (by omega)]; (first | assumption | exact gs_at | (rw [gs_ne (by omega)]; (first | assumption | exact gs_at | (rw [gs_ne (by omega)]; (first | assumption | exact gs_at | (rw [gs_ne (by omega)]; (first | assumption | exact gs_at))))))))) rfl ?_
        refine w_iconst (v := nI 5) dX8_calm_109 (by decide) ?_
        refine w_iaload dX8_calm_110 (by first | assumption | exact gs_at | (rw [gs_ne (by omega)]; (first | assumption | exact gs_at | (rw [gs_ne (by omega)]; (first | assumption | exact gs_at | (rw [gs_ne (by omega)]; (first | assumption | exact gs_at | (rw [gs_ne (by omega)]; (first | assumption | exact gs_at))))))))) (by first | assumption | exact vp_in_nI (by omega) (by omega) | exact vp_in_nI (by assumption) (by omega)) ?_
        rw [nI_clamp (by omega)]
        rw [r5]
        refine w_isubN (by omega) dX8_calm_111 ?_
        first | refine w_i2lN (by omega) dX8_calm_112 ?_ | refine w_i2l dX8_calm_112 ?_
        refine w_goto (tgt := 123) dX8_calm_113 (by decide) ?_
        first | refine w_lmulN dX8_calm_123 ?_ | refine w_lmul dX8_calm_123 ?_
        refine w_lstore_8 dX8_calm_124 rfl ?_
        first | refine w_iinc_10 dX8_calm_126 (nI_inc _) rfl ?_ | refine w_iinc_10 dX8_calm_126 rfl rfl ?_
        refine w_goto (tgt := 85) dX8_calm_129 (by decide) ?_
        have hN := ih (i + 1) (by omega) (by omega)
        rw [odW] at hN
        first
          | (rw [if_pos c_100] at hN; exact hN)
          | (rw [if_neg c_100] at hN; exact hN)
theorem ml_calm59 {E : EV} {Q : OC → AH → Prop} {V : Nat} {th hi ac tp ba en at_ fa dp io hm_ we sh so : Int32} {mm : Nat → Int32} {T : ST} {sd : Int32} {G : AH} {n : Nat} {kk : Int32} {A : Nat} (hV : G.1 V = some (mO V th hi ac tp ba en at_ fa dp io hm_ we sh so)) (hm : G.1 (V + 1) = some (aI 750 mm)) (hR : MoR mm T sd) (hB : Bd T) (hn : n ≤ 6) (hk : ∀ z z2 : Value, Wp E 2 0 0 kX8_calm Q G (0, 0) 143 [.ref V, .int (nI n), .int kk, .long (lN (cmS (100 - T 12 2) (T 12 2) n kk (1 * 2 ^ n))), .float 0, .long (lN (A)), .float 0, .int (nI (1 * 2 ^ n)), z, .float 0, z2] []) : ∀ (k s : Nat), 1 * 2 ^ n - s < k → s ≤ 1 * 2 ^ n → ∀ z z2 : Value, Wp E 2 0 0 kX8_calm Q G (0, 0) 59 [.ref V, .int (nI n), .int kk, .long (lN (cmS (100 - T 12 2) (T 12 2) n kk s)), .float 0, .long (lN (A)), .float 0, .int (nI (s)), z, .float 0, z2] [] := by
  obtain ⟨r0, r3, r4, r5, r6, r7, r9, r11, r12, r14, r20, r26, rL⟩ := id hR
  obtain ⟨b0, b1, b2_, b3, b4, b5, b6, b7, b8, b9, b10, b11, b12, b13, b14, b15, b16, b17, b18, b19⟩ := id hB
  have hp6 : 1 * 2 ^ n ≤ 64 := by rw [Nat.one_mul]; exact Nat.pow_le_pow_right (n := 2) (by decide) hn
  intro k
  induction k with
  | zero => intro s h; exact absurd h (by omega)
  | succ k ih =>
    intro s hk9 hs9 z z2
    have hcn := cntN_le s 12
    refine w_iload dX8_calm_59 rfl ?_
    refine w_iconst (v := nI 1) dX8_calm_61 (by decide) ?_
    refine w_iload_n dX8_calm_62 rfl ?_
    refine w_ishlN (by omega) (by omega) dX8_calm_63 ?_
    refine w_icmp_ge (tgt := 143) dX8_calm_64 (by decide) (fun c_64 => ?_) (fun c_64 => ?_)
    · try simp (disch := omega) only [nI_b2, Decidable.not_not, nI_ltI, nI_leI, nI_eq, ge_iff_le, gt_iff_lt, ne_eq, Nat.not_lt, Nat.not_le] at c_64
      have e : s = 1 * 2 ^ n := by omega
      subst e
      exact hk z z2
    · try simp (disch := omega) only [nI_b2, Decidable.not_not, nI_ltI, nI_leI, nI_eq, ge_iff_le, gt_iff_lt, ne_eq, Nat.not_lt, Nat.not_le] at c_64
      refine w_iload dX8_calm_67 rfl ?_
      refine wS1u dX8_calm_69 lk_X8_262 rfl (m_bits (s := s) (by omega)) (Nat.le_of_ble_eq_true rfl) (Nat.le_of_ble_eq_true rfl) (Nat.le_of_ble_eq_true rfl) (Nat.le_of_ble_eq_true rfl) ?_
      refine w_iload_n dX8_calm_72 rfl ?_
      refine w_icmp_ge (tgt := 79) dX8_calm_73 (by decide) (fun c_73 => ?_) (fun c_73 => ?_)
      · try simp (disch := omega) only [nI_b2, Decidable.not_not, nI_ltI, nI_leI, nI_eq, ge_iff_le, gt_iff_lt, ne_eq, Nat.not_lt, Nat.not_le] at c_73
        refine w_lconst (v := lN 1) dX8_calm_79 rfl ?_
        refine w_lstore_8 dX8_calm_80 rfl ?_
        refine w_iconst (v := nI 0) dX8_calm_82 (by decide) ?_
        refine w_istore_10 dX8_calm_83 rfl ?_
        have hst : cmS (100 - T 12 2) (T 12 2) n kk (s + 1) = cmS (100 - T 12 2) (T 12 2) n kk s + odW (100 - T 12 2) (T 12 2) s n := if_neg (fun h => Int32.not_le.mpr h c_73)
        refine ml_calmI (s := s) hV hm hR hB hn (by omega) ?_ (n + 1) 0 (by omega) (by omega)
        refine w_lload_n dX8_calm_132 rfl ?_
        refine w_lload dX8_calm_133 rfl ?_
        first | refine w_laddN dX8_calm_135 ?_ | refine w_ladd dX8_calm_135 ?_
        refine w_lstore_3 dX8_calm_136 rfl ?_
        first | refine w_iinc_7 dX8_calm_137 (nI_inc _) rfl ?_ | refine w_iinc_7 dX8_calm_137 rfl rfl ?_
        refine w_goto (tgt := 59) dX8_calm_140 (by decide) ?_
        have hN := ih (s + 1) (by omega) (by omega) (.long (lN (odW (100 - T 12 2) (T 12 2) s n))) (.int (nI n))
        rw [hst] at hN
        exact hN
      · try simp (disch := omega) only [nI_b2, Decidable.not_not, nI_ltI, nI_leI, nI_eq, ge_iff_le, gt_iff_lt, ne_eq, Nat.not_lt, Nat.not_le] at c_73
        refine w_goto (tgt := 137) dX8_calm_76 (by decide) ?_
        first | refine w_iinc_7 dX8_calm_137 (nI_inc _) rfl ?_ | refine w_iinc_7 dX8_calm_137 rfl rfl ?_
        refine w_goto (tgt := 59) dX8_calm_140 (by decide) ?_
        have hN := ih (s + 1) (by omega) (by omega) z z2
        rw [show cmS (100 - T 12 2) (T 12 2) n kk (s + 1) = cmS (100 - T 12 2) (T 12 2) n kk s from if_pos (Int32.not_le.mp c_73)] at hN
        exact hN
theorem ml_calm36 {E : EV} {Q : OC → AH → Prop} {V : Nat} {th hi ac tp ba en at_ fa dp io hm_ we sh so : Int32} {mm : Nat → Int32} {T : ST} {sd : Int32} {G : AH} {n : Nat} {kk : Int32} (hV : G.1 V = some (mO V th hi ac tp ba en at_ fa dp io hm_ we sh so)) (hm : G.1 (V + 1) = some (aI 750 mm)) (hR : MoR mm T sd) (hB : Bd T) (hn : n ≤ 6) (hk : Wp E 2 0 0 kX8_calm Q G (0, 0) 56 [.ref V, .int (nI n), .int kk, .long (lN (0)), .float 0, .long (lN (100 ^ n)), .float 0, .int (nI (n)), .float 0, .float 0, .float 0] []) : ∀ (k i : Nat), n - i < k → i ≤ n → Wp E 2 0 0 kX8_calm Q G (0, 0) 36 [.ref V, .int (nI n), .int kk, .long (lN (0)), .float 0, .long (lN (100 ^ i)), .float 0, .int (nI (i)), .float 0, .float 0, .float 0] [] := by
  intro k
  induction k with
  | zero => intro i h; exact absurd h (by omega)
  | succ k ih =>
    intro i hk9 hi9
    refine w_iload dX8_calm_36 rfl ?_
    refine w_iload_n dX8_calm_38 rfl ?_
    refine w_icmp_ge (tgt := 56) dX8_calm_39 (by decide) (fun c_39 => ?_) (fun c_39 => ?_)
    · try simp (disch := omega) only [nI_b2, Decidable.not_not, nI_ltI, nI_leI, nI_eq, ge_iff_le, gt_iff_lt, ne_eq, Nat.not_lt, Nat.not_le] at c_39
      have e : i = n := by omega
      subst e
      exact hk
    · try simp (disch := omega) only [nI_b2, Decidable.not_not, nI_ltI, nI_leI, nI_eq, ge_iff_le, gt_iff_lt, ne_eq, Nat.not_lt, Nat.not_le] at c_39
      refine w_lload dX8_calm_42 rfl ?_
      refine w_ldc2 dX8_calm_44 u_1665 ?_
      change Wp _ _ _ _ _ _ _ _ _ _ (.long (lN 100) :: _)
      first | refine w_lmulN dX8_calm_47 ?_ | refine w_lmul dX8_calm_47 ?_
      refine w_lstore_5 dX8_calm_48 rfl ?_
      first | refine w_iinc_7 dX8_calm_50 (nI_inc _) rfl ?_ | refine w_iinc_7 dX8_calm_50 rfl rfl ?_
      refine w_goto (tgt := 36) dX8_calm_53 (by decide) ?_
      exact ih (i + 1) (by omega) (by omega)
theorem mr_m_calm {E : EV} {Q : OC → AH → Prop} {V : Nat} {th hi ac tp ba en at_ fa dp io hm_ we sh so : Int32} {G : AH} {x kk : Int32} {j : Nat} (hV : G.1 V = some (mO V th hi ac tp ba en at_ fa dp io hm_ we sh so)) (hj : 0 < j ∧ j < 4) (hQ : Q (.inl (some (.int (nI 0)))) (gs G V (mO V (nI j) hi ac tp ba en at_ fa dp io hm_ we sh so))) : Wp E 2 0 0 kX8_calm Q G (0, 0) 16 [.ref V, .int x, .int kk, .float 0, .float 0, .float 0, .float 0, .float 0, .float 0, .float 0, .float 0] [.int (nI j), .ref V] := by
  refine w_putf dX8_calm_16 fl_X8_39 (by first | assumption | exact gs_at | (rw [gs_ne (by omega)]; (first | assumption | exact gs_at | (rw [gs_ne (by omega)]; (first | assumption | exact gs_at | (rw [gs_ne (by omega)]; (first | assumption | exact gs_at | (rw [gs_ne (by omega)]; (first | assumption | exact gs_at))))))))) (by simp) rfl rfl ?_
  refine w_aload_n dX8_calm_19 rfl ?_
  refine w_getf dX8_calm_20 fl_X8_39 (by first | assumption | exact gs_at | (rw [gs_ne (by omega)]; (first | assumption | exact gs_at | (rw [gs_ne (by omega)]; (first | assumption | exact gs_at | (rw [gs_ne (by omega)]; (first | assumption | exact gs_at | (rw [gs_ne (by omega)]; (first | assumption | exact gs_at))))))))) rfl ?_
  refine w_ifN_le (tgt := 28) dX8_calm_23 (by decide) (fun c_23 => ?_) (fun c_23 => ?_)
  · try simp (disch := omega) only [nI_b2, Decidable.not_not, nI_ltI, nI_leI, nI_eq, ge_iff_le, gt_iff_lt, ne_eq, Nat.not_lt, Nat.not_le] at c_23
    exact absurd c_23 (by omega)
  · try simp (disch := omega) only [nI_b2, Decidable.not_not, nI_ltI, nI_leI, nI_eq, ge_iff_le, gt_iff_lt, ne_eq, Nat.not_lt, Nat.not_le] at c_23
    refine w_iconst (v := nI 0) dX8_calm_26 (by decide) ?_
    refine w_iret dX8_calm_27 rfl (Nat.le_of_ble_eq_true rfl) (Nat.le_of_ble_eq_true rfl) ?_
    exact hQ
theorem mk_m_calm {E : EV} {Q : OC → AH → Prop} {V : Nat} {th hi ac tp ba en at_ fa dp io hm_ we sh so : Int32} {mm : Nat → Int32} {T : ST} {sd : Int32} {G : AH} {n : Nat} {kk : Int32} (hn : n ≤ 6) (hV : G.1 V = some (mO V th hi ac tp ba en at_ fa dp io hm_ we sh so)) (hm : G.1 (V + 1) = some (aI 750 mm)) (hR : MoR mm T sd) (hB : Bd T) (hQ : Q (.inl (some (.int (calmV T n kk)))) (gs G V (mO V (nI 0) hi ac tp ba en at_ fa dp io hm_ we sh so))) : Wp E 2 0 0 kX8_calm Q G (0, 0) 16 [.ref V, .int (nI n), .int kk, .float 0, .float 0, .float 0, .float 0, .float 0, .float 0, .float 0, .float 0] [.int (nI 0), .ref V] := by
  obtain ⟨r0, r3, r4, r5, r6, r7, r9, r11, r12, r14, r20, r26, rL⟩ := id hR
  obtain ⟨b0, b1, b2_, b3, b4, b5, b6, b7, b8, b9, b10, b11, b12, b13, b14, b15, b16, b17, b18, b19⟩ := id hB
  have hV2 : (gs G V (mO V (nI 0) hi ac tp ba en at_ fa dp io hm_ we sh so)).1 V = some (mO V (nI 0) hi ac tp ba en at_ fa dp io hm_ we sh so) := gs_at
  have hm2 : (gs G V (mO V (nI 0) hi ac tp ba en at_ fa dp io hm_ we sh so)).1 (V + 1) = some (aI 750 mm) := (gs_ne (by omega)).trans hm
  refine w_putf dX8_calm_16 fl_X8_39 (by first | assumption | exact gs_at | (rw [gs_ne (by omega)]; (first | assumption | exact gs_at | (rw [gs_ne (by omega)]; (first | assumption | exact gs_at | (rw [gs_ne (by omega)]; (first | assumption | exact gs_at | (rw [gs_ne (by omega)]; (first | assumption | exact gs_at))))))))) (by simp) rfl rfl ?_
  refine w_aload_n dX8_calm_19 rfl ?_
  refine w_getf dX8_calm_20 fl_X8_39 (by first | assumption | exact gs_at | (rw [gs_ne (by omega)]; (first | assumption | exact gs_at | (rw [gs_ne (by omega)]; (first | assumption | exact gs_at | (rw [gs_ne (by omega)]; (first | assumption | exact gs_at | (rw [gs_ne (by omega)]; (first | assumption | exact gs_at))))))))) rfl ?_
  refine w_ifN_le (tgt := 28) dX8_calm_23 (by decide) (fun c_23 => ?_) (fun c_23 => ?_)
  · try simp (disch := omega) only [nI_b2, Decidable.not_not, nI_ltI, nI_leI, nI_eq, ge_iff_le, gt_iff_lt, ne_eq, Nat.not_lt, Nat.not_le] at c_23
    refine w_lconst (v := lN 0) dX8_calm_28 rfl ?_
    refine w_lstore_3 dX8_calm_29 rfl ?_
    refine w_lconst (v := lN 1) dX8_calm_30 rfl ?_
    refine w_lstore_5 dX8_calm_31 rfl ?_
    refine w_iconst (v := nI 0) dX8_calm_33 (by decide) ?_
    refine w_istore_7 dX8_calm_34 rfl ?_
    refine ml_calm36 hV2 hm2 hR hB hn ?_ (n + 1) 0 (by omega) (by omega)
    refine w_iconst (v := nI 0) dX8_calm_56 (by decide) ?_
    refine w_istore_7 dX8_calm_57 rfl ?_
    refine ml_calm59 (A := 100 ^ n) hV2 hm2 hR hB hn (fun z z2 => ?_) (1 * 2 ^ n + 1) 0 (by omega) (by omega) _ _
    rw [cmS_eq kk hn]
    have hcl := clF_le (p := 100 - T 12 2) (q := T 12 2) (k := kk) (by omega) (by omega) hn (n + 1) (by omega)
    have h10 : 100 ^ n ≤ 1000000000000 := Nat.le_trans (Nat.pow_le_pow_right (by decide) hn) (by decide)
    have h1p : 0 < 100 ^ n := Nat.pow_pos (by decide)
    refine w_lload_n dX8_calm_143 rfl ?_
    refine w_ldc2 dX8_calm_144 u_1666 ?_
    change Wp _ _ _ _ _ _ _ _ _ _ (.long (lN 10000) :: _)
    first | refine w_lmulN dX8_calm_147 ?_ | refine w_lmul dX8_calm_147 ?_
    refine w_lload dX8_calm_148 rfl ?_
    refine w_ldiv dX8_calm_150 (lN_ne0 h1p (by omega)) ?_
    rw [lN_div (by omega) h1p (by omega)]
    refine w_l2i dX8_calm_151 ?_
    rw [lN_i]
    refine w_iret dX8_calm_152 rfl (Nat.le_of_ble_eq_true rfl) (Nat.le_of_ble_eq_true rfl) ?_
    rw [calmV] at hQ
    exact hQ
  · try simp (disch := omega) only [nI_b2, Decidable.not_not, nI_ltI, nI_leI, nI_eq, ge_iff_le, gt_iff_lt, ne_eq, Nat.not_lt, Nat.not_le] at c_23
    exact absurd c_23 (by decide)
theorem m_calm {E : EV} {V : Nat} {th hi ac tp ba en at_ fa dp io hm_ we sh so : Int32} {mm : Nat → Int32} {T : ST} {sd : Int32} {G : AH} {x kk : Int32} (hV : G.1 V = some (mO V th hi ac tp ba en at_ fa dp io hm_ we sh so)) (hm : G.1 (V + 1) = some (aI 750 mm)) (hR : MoR mm T sd) (hB : Bd T)  : Cu E 2 kX8_calm [.ref V, .int x, .int kk] G (.int (if xk1 (okN 0 (nI 6) x) = 0 then calmV T (ix x) kk else nI 0)) (gs G V (mO V (nI (xk1 (okN 0 (nI 6) x))) hi ac tp ba en at_ fa dp io hm_ we sh so)) := by
  refine Ct.intro rfl (by decide) [.ref V, .int x, .int kk, .float 0, .float 0, .float 0, .float 0, .float 0, .float 0, .float 0, .float 0] (by simp [Value.category]) (Nat.le_of_ble_eq_true rfl) rfl ?_
  obtain ⟨r0, r3, r4, r5, r6, r7, r9, r11, r12, r14, r20, r26, rL⟩ := id hR
  obtain ⟨b0, b1, b2_, b3, b4, b5, b6, b7, b8, b9, b10, b11, b12, b13, b14, b15, b16, b17, b18, b19⟩ := id hB
  refine w_aload_n dX8_calm_0 rfl ?_
  refine w_iload_n dX8_calm_1 rfl ?_
  refine w_iconst (v := nI 0) dX8_calm_2 (by decide) ?_
  refine w_bipush (v := nI 6) dX8_calm_3 (by decide) ?_
  refine wS3u dX8_calm_5 lk_X8_42 rfl (m_isIn) (Nat.le_of_ble_eq_true rfl) (Nat.le_of_ble_eq_true rfl) (Nat.le_of_ble_eq_true rfl) (Nat.le_of_ble_eq_true rfl) ?_
  refine w_ifN_ne (tgt := 15) dX8_calm_8 (by decide) (fun c_8 => ?_) (fun c_8 => ?_)
  · try simp (disch := omega) only [nI_b2, Decidable.not_not, nI_ltI, nI_leI, nI_eq, ge_iff_le, gt_iff_lt, ne_eq, Nat.not_lt, Nat.not_le] at c_8
    refine w_iconst (v := nI 0) dX8_calm_15 (by decide) ?_
    first
      | (have kx : xk1 (okN 0 (nI 6) x) = 1 := (by rw [xk1, if_neg c_8]); exact mr_m_calm hV (by decide) ⟨by rw [kx]; rfl, by rw [kx]⟩)
      | (have kx : xk1 (okN 0 (nI 6) x) = 0 := (by rw [xk1, if_pos c_8]); obtain ⟨n, hn8, hn9, e⟩ := in_L (a := 0) (n := 6) (by omega) (by omega) c_8; subst e; exact mk_m_calm hn9 hV hm hR hB ⟨by rw [kx, if_pos rfl, ix_nI (by omega)], by rw [kx]⟩)
  · try simp (disch := omega) only [nI_b2, Decidable.not_not, nI_ltI, nI_leI, nI_eq, ge_iff_le, gt_iff_lt, ne_eq, Nat.not_lt, Nat.not_le] at c_8
    refine w_iconst (v := nI 1) dX8_calm_11 (by decide) ?_
    refine w_goto (tgt := 16) dX8_calm_12 (by decide) ?_
    first
      | (have kx : xk1 (okN 0 (nI 6) x) = 1 := (by rw [xk1, if_neg c_8]); exact mr_m_calm hV (by decide) ⟨by rw [kx]; rfl, by rw [kx]⟩)
      | (have kx : xk1 (okN 0 (nI 6) x) = 0 := (by rw [xk1, if_pos c_8]); obtain ⟨n, hn8, hn9, e⟩ := in_L (a := 0) (n := 6) (by omega) (by omega) c_8; subst e; exact mk_m_calm hn9 hV hm hR hB ⟨by rw [kx, if_pos rfl, ix_nI (by omega)], by rw [kx]⟩)
