/-! traces -/
def rmF (t : Nat) : Nat → Nat → Nat → Nat | 0, _, s => s | k + 1, r, s => if r = t then s else rmF t k ((r + 1) % 6) (s ||| 1 * 2 ^ ((r + 1) % 6))
def rmsN (w : Nat) : Nat := rmF (w % 6) 6 (w / 6) (1 * 2 ^ (w / 6))
theorem rms_lt : ∀ w : Fin 36, rmsN w.1 < 64 := by decide +kernel
abbrev ftP (w t : Nat) : Prop := rmsN w &&& (t &&& 63) = t &&& 63 ∧ rmsN w &&& (t / 2 ^ 6 &&& 63) = 0
def wyN (t s : Nat) : Nat → Nat | 0 => 0 | w + 1 => wyN t s w + (if ftP w t ∧ rmsN w &&& s = s then 1 else 0)
theorem wyN_le (t s : Nat) : ∀ w, wyN t s w ≤ wyN t 0 w ∧ wyN t 0 w ≤ w
  | 0 => ⟨Nat.le_refl _, Nat.le_refl _⟩
  | w + 1 => by
    have := wyN_le t s w
    rw [wyN, wyN]
    by_cases h : ftP w t
    · rw [if_pos (show ftP w t ∧ rmsN w &&& 0 = 0 from ⟨h, Nat.and_zero _⟩)]
      split <;> omega
    · rw [if_neg (fun h2 => h h2.1), if_neg (fun h2 => h h2.1)]
      omega
def tsN (t : Nat) : Nat → Nat | 0 => 63 | w + 1 => if ftP w t then tsN t w &&& rmsN w else tsN t w
def trcV (t su : Nat) : Int32 := if su = 0 then nI (wyN t 0 36) else if wyN t 0 36 = 0 then nI 0 else nI (tsN t 36)
def lkS (t : Nat) : Nat → Int32 × Nat | 0 => (-1, wyN t 0 36 + 1) | r + 1 => if max (wyN t (1 * 2 ^ r) 36) (wyN t 0 36 - wyN t (1 * 2 ^ r) 36) < (lkS t r).2 then (nI r, max (wyN t (1 * 2 ^ r) 36) (wyN t 0 36 - wyN t (1 * 2 ^ r) 36)) else lkS t r
theorem lkS_le (t : Nat) : ∀ r, (lkS t r).2 ≤ 37
  | 0 => by have := wyN_le t 0 36; rw [lkS]; simp only; omega
  | r + 1 => by have := lkS_le t r; rw [lkS]; split; simp only; omega; exact this
def lokV (t : Nat) : Int32 := if wyN t 0 36 < 2 then -1 else (lkS t 6).1
abbrev trOk (y : Nat → Nat) (n : Nat) : Prop := n ≤ 40 ∧ n % 2 = 0 ∧ ∀ j, j < n / 2 → y (2 * j) < 6 ∧ y (2 * j + 1) ≤ 1
def trT (y : Nat → Nat) : Nat → Nat | 0 => 0 | i + 1 => trT y i ||| 1 * 2 ^ (if y (2 * i + 1) = 1 then y (2 * i) else y (2 * i) + 6)
theorem trT_lt {y : Nat → Nat} : ∀ i, (∀ j, j < i → y (2 * j) < 6) → trT y i < 2 ^ 12
  | 0, _ => by rw [trT]; decide
  | i + 1, h => by
    rw [trT, Nat.one_mul]
    refine Nat.or_lt_two_pow (trT_lt i (fun j hj => h j (by omega))) (Nat.pow_lt_pow_right (by decide) ?_)
    have := h i (by omega)
    split <;> omega
theorem lp_roomsOf {E : EV} {Q : OC → AH → Prop} {G : AH} {w t : Nat} (hw : w < 36) (ht : t < 6) (hQ : Q (.inl (some (.int (nI (rmsN w))))) G) : ∀ (k i : Nat), 6 - i < k → i ≤ 6 → ∀ r s : Nat, r < 6 → rmF t (6 - i) r s = rmsN w → Wp E 1 0 0 kX7_roomsOf Q G (0, 0) 17 [.int (nI w), .int (nI t), .int (nI r), .int (nI s), .int (nI i)] [] := by
  intro k
  induction k with
  | zero => intro i h; exact absurd h (by omega)
  | succ k ih =>
    intro i hk hi
    intro r s hr hv
    refine w_iload dX7_roomsOf_17 rfl ?_
    refine w_bipush (v := nI 6) dX7_roomsOf_19 (by decide) ?_
    refine w_icmp_ge (tgt := 48) dX7_roomsOf_21 (by decide) (fun c_21 => ?_) (fun c_21 => ?_)
    · try simp (disch := omega) only [nI_b2, Decidable.not_not, nI_ltI, nI_leI, nI_eq, ge_iff_le, gt_iff_lt, ne_eq, Nat.not_lt, Nat.not_le] at c_21
      refine w_iload_n dX7_roomsOf_48 rfl ?_
      refine w_iret dX7_roomsOf_49 rfl (Nat.le_of_ble_eq_true rfl) (Nat.le_of_ble_eq_true rfl) ?_
      first
        | (rw [if_pos c_26] at hv; rw [← hv] at hQ; exact hQ)
        | (rw [show 6 - i = 0 by omega, rmF] at hv; rw [← hv] at hQ; exact hQ)
    · try simp (disch := omega) only [nI_b2, Decidable.not_not, nI_ltI, nI_leI, nI_eq, ge_iff_le, gt_iff_lt, ne_eq, Nat.not_lt, Nat.not_le] at c_21
      rw [show 6 - i = (6 - (i + 1)) + 1 by omega, rmF] at hv
      refine w_iload_n dX7_roomsOf_24 rfl ?_
      refine w_iload_n dX7_roomsOf_25 rfl ?_
      refine w_icmp_eq (tgt := 48) dX7_roomsOf_26 (by decide) (fun c_26 => ?_) (fun c_26 => ?_)
      · try simp (disch := omega) only [nI_b2, Decidable.not_not, nI_ltI, nI_leI, nI_eq, ge_iff_le, gt_iff_lt, ne_eq, Nat.not_lt, Nat.not_le] at c_26
        refine w_iload_n dX7_roomsOf_48 rfl ?_
        refine w_iret dX7_roomsOf_49 rfl (Nat.le_of_ble_eq_true rfl) (Nat.le_of_ble_eq_true rfl) ?_
        first
          | (rw [if_pos c_26] at hv; rw [← hv] at hQ; exact hQ)
          | (rw [show 6 - i = 0 by omega, rmF] at hv; rw [← hv] at hQ; exact hQ)
      · try simp (disch := omega) only [nI_b2, Decidable.not_not, nI_ltI, nI_leI, nI_eq, ge_iff_le, gt_iff_lt, ne_eq, Nat.not_lt, Nat.not_le] at c_26
        rw [if_neg c_26] at hv
        refine w_iload_n dX7_roomsOf_29 rfl ?_
        refine w_iconst (v := nI 1) dX7_roomsOf_30 (by decide) ?_
        first | refine w_iaddN dX7_roomsOf_31 ?_ | refine w_iadd dX7_roomsOf_31 ?_
        refine w_bipush (v := nI 6) dX7_roomsOf_32 (by decide) ?_
        first | refine w_iremN (by omega) (by omega) (by omega) dX7_roomsOf_34 ?_ | refine w_irem dX7_roomsOf_34 (by decide) ?_
        refine w_istore_2 dX7_roomsOf_35 rfl ?_
        refine w_iload_n dX7_roomsOf_36 rfl ?_
        refine w_iconst (v := nI 1) dX7_roomsOf_37 (by decide) ?_
        refine w_iload_n dX7_roomsOf_38 rfl ?_
        refine w_ishlN (by omega) (p2_lt (by omega)) dX7_roomsOf_39 ?_
        first | refine w_iorN dX7_roomsOf_40 ?_ | refine w_ior dX7_roomsOf_40 ?_
        refine w_istore_3 dX7_roomsOf_41 rfl ?_
        first | refine w_iinc_4 dX7_roomsOf_42 (nI_inc _) rfl ?_ | refine w_iinc_4 dX7_roomsOf_42 rfl rfl ?_
        refine w_goto (tgt := 17) dX7_roomsOf_45 (by decide) ?_
        exact ih (i + 1) (by omega) (by omega) ((r + 1) % 6) (s ||| 1 * 2 ^ ((r + 1) % 6)) (Nat.mod_lt _ (by decide)) hv
theorem c_roomsOf {E : EV} {w : Nat} {G : AH} (hw : w < 36) : Cu E 1 kX7_roomsOf [.int (nI w)] G (.int (nI (rmsN w))) G := by
  refine Ct.intro rfl (by decide) [.int (nI w), .float 0, .float 0, .float 0, .float 0] (by simp [Value.category]) (Nat.le_of_ble_eq_true rfl) rfl ?_
  refine w_iload_n dX7_roomsOf_0 rfl ?_
  refine w_bipush (v := nI 6) dX7_roomsOf_1 (by decide) ?_
  first | refine w_iremN (by omega) (by omega) (by omega) dX7_roomsOf_3 ?_ | refine w_irem dX7_roomsOf_3 (by decide) ?_
  refine w_istore_1 dX7_roomsOf_4 rfl ?_
  refine w_iload_n dX7_roomsOf_5 rfl ?_
  refine w_bipush (v := nI 6) dX7_roomsOf_6 (by decide) ?_
  first | refine w_idivN (by omega) (by omega) (by omega) dX7_roomsOf_8 ?_ | refine w_idiv dX7_roomsOf_8 (by decide) ?_
  refine w_istore_2 dX7_roomsOf_9 rfl ?_
  refine w_iconst (v := nI 1) dX7_roomsOf_10 (by decide) ?_
  refine w_iload_n dX7_roomsOf_11 rfl ?_
  refine w_ishlN (by omega) (p2_lt (by omega)) dX7_roomsOf_12 ?_
  refine w_istore_3 dX7_roomsOf_13 rfl ?_
  refine w_iconst (v := nI 0) dX7_roomsOf_14 (by decide) ?_
  refine w_istore_4 dX7_roomsOf_15 rfl ?_
  exact lp_roomsOf hw (Nat.mod_lt _ (by decide)) ⟨rfl, rfl⟩ 7 0 (by omega) (by omega) _ _ (by omega) rfl
theorem c_fits {E : EV} {w t : Nat} {G : AH} (hw : w < 36) (ht : t < 2 ^ 30) : Cu E 2 kX7_fits [.int (nI w), .int (nI t)] G (.int (nI (b2 (ftP w t)))) G := by
  have h63 : ∀ z : Nat, z &&& 63 ≤ 63 := fun z => Nat.and_le_right
  have h1 := h63 t; have h2 := h63 (t / 2 ^ 6)
  have h3 : rmsN w &&& (t &&& 63) ≤ t &&& 63 := Nat.and_le_right
  have h4 : rmsN w &&& (t / 2 ^ 6 &&& 63) ≤ t / 2 ^ 6 &&& 63 := Nat.and_le_right
  refine Ct.intro rfl (by decide) [.int (nI w), .int (nI t), .float 0, .float 0, .float 0] (by simp [Value.category]) (Nat.le_of_ble_eq_true rfl) rfl ?_
  refine w_iload_n dX7_fits_0 rfl ?_
  refine w_bipush (v := nI 63) dX7_fits_1 (by decide) ?_
  first | refine w_iandN dX7_fits_3 ?_ | refine w_iand dX7_fits_3 ?_
  refine w_istore_2 dX7_fits_4 rfl ?_
  refine w_iload_n dX7_fits_5 rfl ?_
  refine w_bipush (v := nI 6) dX7_fits_6 (by decide) ?_
  refine w_ishr dX7_fits_8 ?_
  rw [nI_shr (by omega) (by omega)]
  refine w_bipush (v := nI 63) dX7_fits_9 (by decide) ?_
  first | refine w_iandN dX7_fits_11 ?_ | refine w_iand dX7_fits_11 ?_
  refine w_istore_3 dX7_fits_12 rfl ?_
  refine w_iload_n dX7_fits_13 rfl ?_
  refine wS1u dX7_fits_14 lk_X7_323 rfl (c_roomsOf hw) (Nat.le_of_ble_eq_true rfl) (Nat.le_of_ble_eq_true rfl) (Nat.le_of_ble_eq_true rfl) (Nat.le_of_ble_eq_true rfl) ?_
  refine w_istore_4 dX7_fits_17 rfl ?_
  refine w_iload dX7_fits_19 rfl ?_
  refine w_iload_n dX7_fits_21 rfl ?_
  first | refine w_iandN dX7_fits_22 ?_ | refine w_iand dX7_fits_22 ?_
  refine w_iload_n dX7_fits_23 rfl ?_
  refine w_icmp_ne (tgt := 38) dX7_fits_24 (by decide) (fun c_24 => ?_) (fun c_24 => ?_)
  · try simp (disch := omega) only [nI_b2, Decidable.not_not, nI_ltI, nI_leI, nI_eq, ge_iff_le, gt_iff_lt, ne_eq, Nat.not_lt, Nat.not_le] at c_24
    refine w_iconst (v := nI 0) dX7_fits_38 (by decide) ?_
    refine w_zret dX7_fits_39 rfl rfl (Nat.le_of_ble_eq_true rfl) (Nat.le_of_ble_eq_true rfl) ?_
    refine ⟨?_, rfl⟩
    first
      | (rw [b2, if_pos ⟨c_24, c_31⟩]; done)
      | (rw [b2, if_neg (fun h => c_24 h.1)]; done)
      | (rw [b2, if_neg (fun h => c_31 h.2)]; done)
  · try simp (disch := omega) only [nI_b2, Decidable.not_not, nI_ltI, nI_leI, nI_eq, ge_iff_le, gt_iff_lt, ne_eq, Nat.not_lt, Nat.not_le] at c_24
    refine w_iload dX7_fits_27 rfl ?_
    refine w_iload_n dX7_fits_29 rfl ?_
    first | refine w_iandN dX7_fits_30 ?_ | refine w_iand dX7_fits_30 ?_
    refine w_ifN_ne (tgt := 38) dX7_fits_31 (by decide) (fun c_31 => ?_) (fun c_31 => ?_)
    · try simp (disch := omega) only [nI_b2, Decidable.not_not, nI_ltI, nI_leI, nI_eq, ge_iff_le, gt_iff_lt, ne_eq, Nat.not_lt, Nat.not_le] at c_31
      refine w_iconst (v := nI 0) dX7_fits_38 (by decide) ?_
      refine w_zret dX7_fits_39 rfl rfl (Nat.le_of_ble_eq_true rfl) (Nat.le_of_ble_eq_true rfl) ?_
      refine ⟨?_, rfl⟩
      first
        | (rw [b2, if_pos ⟨c_24, c_31⟩]; done)
        | (rw [b2, if_neg (fun h => c_24 h.1)]; done)
        | (rw [b2, if_neg (fun h => c_31 h.2)]; done)
    · try simp (disch := omega) only [nI_b2, Decidable.not_not, nI_ltI, nI_leI, nI_eq, ge_iff_le, gt_iff_lt, ne_eq, Nat.not_lt, Nat.not_le] at c_31
      refine w_iconst (v := nI 1) dX7_fits_34 (by decide) ?_
      refine w_goto (tgt := 39) dX7_fits_35 (by decide) ?_
      refine w_zret dX7_fits_39 rfl rfl (Nat.le_of_ble_eq_true rfl) (Nat.le_of_ble_eq_true rfl) ?_
      refine ⟨?_, rfl⟩
      first
        | (rw [b2, if_pos ⟨c_24, c_31⟩]; done)
        | (rw [b2, if_neg (fun h => c_24 h.1)]; done)
        | (rw [b2, if_neg (fun h => c_31 h.2)]; done)
theorem lp_ways {E : EV} {Q : OC → AH → Prop} {G : AH} {t s : Nat} (ht : t < 2 ^ 30) (hs : s < 2 ^ 30) (hQ : Q (.inl (some (.int (nI (wyN t s 36))))) G) : ∀ (k i : Nat), 36 - i < k → i ≤ 36 → Wp E 3 0 0 kX7_waysThrough Q G (0, 0) 4 [.int (nI t), .int (nI s), .int (nI (wyN t s i)), .int (nI i)] [] := by
  intro k
  induction k with
  | zero => intro i h; exact absurd h (by omega)
  | succ k ih =>
    intro i hk hi
    refine w_iload_n dX7_waysThrough_4 rfl ?_
    refine w_bipush (v := nI 36) dX7_waysThrough_5 (by decide) ?_
    refine w_icmp_ge (tgt := 37) dX7_waysThrough_7 (by decide) (fun c_7 => ?_) (fun c_7 => ?_)
    · try simp (disch := omega) only [nI_b2, Decidable.not_not, nI_ltI, nI_leI, nI_eq, ge_iff_le, gt_iff_lt, ne_eq, Nat.not_lt, Nat.not_le] at c_7
      refine w_iload_n dX7_waysThrough_37 rfl ?_
      refine w_iret dX7_waysThrough_38 rfl (Nat.le_of_ble_eq_true rfl) (Nat.le_of_ble_eq_true rfl) ?_
      have e : i = 36 := by omega
      subst e
      exact hQ
    · try simp (disch := omega) only [nI_b2, Decidable.not_not, nI_ltI, nI_leI, nI_eq, ge_iff_le, gt_iff_lt, ne_eq, Nat.not_lt, Nat.not_le] at c_7
      refine w_iload_n dX7_waysThrough_10 rfl ?_
      refine w_iload_n dX7_waysThrough_11 rfl ?_
      refine wS2u dX7_waysThrough_12 lk_X7_319 rfl (c_fits (by omega) ht) (Nat.le_of_ble_eq_true rfl) (Nat.le_of_ble_eq_true rfl) (Nat.le_of_ble_eq_true rfl) (Nat.le_of_ble_eq_true rfl) ?_
      refine w_ifN_eq (tgt := 31) dX7_waysThrough_15 (by decide) (fun c_15 => ?_) (fun c_15 => ?_)
      · try simp (disch := omega) only [nI_b2, Decidable.not_not, nI_ltI, nI_leI, nI_eq, ge_iff_le, gt_iff_lt, ne_eq, Nat.not_lt, Nat.not_le] at c_15
        first | refine w_iinc_3 dX7_waysThrough_31 (nI_inc _) rfl ?_ | refine w_iinc_3 dX7_waysThrough_31 rfl rfl ?_
        refine w_goto (tgt := 4) dX7_waysThrough_34 (by decide) ?_
        have hN := ih (i + 1) (by omega) (by omega)
        rw [wyN] at hN
        first
          | (rw [if_pos ⟨c_15, c_25⟩] at hN; exact hN)
          | (rw [if_neg (fun h => c_25 h.2)] at hN; exact hN)
          | (rw [if_neg (fun h => c_15 h.1)] at hN; exact hN)
      · try simp (disch := omega) only [nI_b2, Decidable.not_not, nI_ltI, nI_leI, nI_eq, ge_iff_le, gt_iff_lt, ne_eq, Nat.not_lt, Nat.not_le] at c_15
        refine w_iload_n dX7_waysThrough_18 rfl ?_
        refine wS1u dX7_waysThrough_19 lk_X7_323 rfl (c_roomsOf (by omega)) (Nat.le_of_ble_eq_true rfl) (Nat.le_of_ble_eq_true rfl) (Nat.le_of_ble_eq_true rfl) (Nat.le_of_ble_eq_true rfl) ?_
        refine w_iload_n dX7_waysThrough_22 rfl ?_
        first | refine w_iandN dX7_waysThrough_23 ?_ | refine w_iand dX7_waysThrough_23 ?_
        refine w_iload_n dX7_waysThrough_24 rfl ?_
        have h5 : rmsN i &&& s ≤ s := Nat.and_le_right
        refine w_icmp_ne (tgt := 31) dX7_waysThrough_25 (by decide) (fun c_25 => ?_) (fun c_25 => ?_)
        · try simp (disch := omega) only [nI_b2, Decidable.not_not, nI_ltI, nI_leI, nI_eq, ge_iff_le, gt_iff_lt, ne_eq, Nat.not_lt, Nat.not_le] at c_25
          first | refine w_iinc_3 dX7_waysThrough_31 (nI_inc _) rfl ?_ | refine w_iinc_3 dX7_waysThrough_31 rfl rfl ?_
          refine w_goto (tgt := 4) dX7_waysThrough_34 (by decide) ?_
          have hN := ih (i + 1) (by omega) (by omega)
          rw [wyN] at hN
          first
            | (rw [if_pos ⟨c_15, c_25⟩] at hN; exact hN)
            | (rw [if_neg (fun h => c_25 h.2)] at hN; exact hN)
            | (rw [if_neg (fun h => c_15 h.1)] at hN; exact hN)
        · try simp (disch := omega) only [nI_b2, Decidable.not_not, nI_ltI, nI_leI, nI_eq, ge_iff_le, gt_iff_lt, ne_eq, Nat.not_lt, Nat.not_le] at c_25
          first | refine w_iinc_2 dX7_waysThrough_28 (nI_inc _) rfl ?_ | refine w_iinc_2 dX7_waysThrough_28 rfl rfl ?_
          first | refine w_iinc_3 dX7_waysThrough_31 (nI_inc _) rfl ?_ | refine w_iinc_3 dX7_waysThrough_31 rfl rfl ?_
          refine w_goto (tgt := 4) dX7_waysThrough_34 (by decide) ?_
          have hN := ih (i + 1) (by omega) (by omega)
          rw [wyN] at hN
          first
            | (rw [if_pos ⟨c_15, c_25⟩] at hN; exact hN)
            | (rw [if_neg (fun h => c_25 h.2)] at hN; exact hN)
            | (rw [if_neg (fun h => c_15 h.1)] at hN; exact hN)
theorem c_ways {E : EV} {t s : Nat} {G : AH} (ht : t < 2 ^ 30) (hs : s < 2 ^ 30) : Cu E 3 kX7_waysThrough [.int (nI t), .int (nI s)] G (.int (nI (wyN t s 36))) G := by
  refine Ct.intro rfl (by decide) [.int (nI t), .int (nI s), .float 0, .float 0] (by simp [Value.category]) (Nat.le_of_ble_eq_true rfl) rfl ?_
  refine w_iconst (v := nI 0) dX7_waysThrough_0 (by decide) ?_
  refine w_istore_2 dX7_waysThrough_1 rfl ?_
  refine w_iconst (v := nI 0) dX7_waysThrough_2 (by decide) ?_
  refine w_istore_3 dX7_waysThrough_3 rfl ?_
  exact lp_ways ht hs ⟨rfl, rfl⟩ 37 0 (by omega) (by omega)
theorem nI_2 (a : Nat) : nI a + 2 = nI (a + 2) := (Int32.ofNat_add a 2).symm
theorem lp_rdt {E : EV} {Q : OC → AH → Prop} {G : AH} {B tn im nw rm ru sp : Nat} {f : Nat → Nat} {wb sd si : Int32} {T Ti : ST} {D Di : LD} {P : Nat → ST × Int32} {n : Nat} (hH : HI G B tn f wb T sd D im Ti si Di nw rm P ru sp) (hn : n ≤ 40) (h2 : n % 2 = 0) (hx : (¬ ∀ j, j < n / 2 → f (2 * j) < 6 ∧ f (2 * j + 1) ≤ 1) → ∀ n9, G.2 ≤ n9 → Q (.inr "java/lang/IllegalArgumentException") (G.1, n9)) (hQ : (∀ j, j < n / 2 → f (2 * j) < 6 ∧ f (2 * j + 1) ≤ 1) → Q (.inl (some (.int (nI (trT f (n / 2)))))) G) : ∀ (k i : Nat) (x y : Value), n / 2 - i < k → i ≤ n / 2 → (∀ j, j < i → f (2 * j) < 6 ∧ f (2 * j + 1) ≤ 1) → Wp E 9 1 6 kX7_readTraces Q G (0, 0) 32 [.ref B, .int (nI n), .int (nI (trT f i)), .int (nI (2 * i)), x, y] [] := by
  intro k
  induction k with
  | zero => intro i x y h; exact absurd h (by omega)
  | succ k ih =>
    intro i x y hk hi hpre
    obtain ⟨hB, ⟨htn, him, hnw, hrm⟩, hT, hRd, ⟨hI, hBd⟩, hS, ⟨hL, hD, hSp, hrs⟩, ⟨hIi, hBi, hLi, hDi⟩, ⟨hPa, hPi⟩, ⟨⟨we, hwe⟩, hSm, hSv, ⟨od, hod⟩⟩⟩ := id hH; obtain ⟨⟨_, _, _, _, _, _, gS0⟩, _⟩ := id hS; have hI0 := hI.1; have hIi0 := hIi.1; have hSm0 := hSm.1; have hSv0 := hSv.1
    obtain ⟨hT0, hT1⟩ := hT
    have hf1 := hT1 (2 * i); have hf2 := hT1 (2 * i + 1)
    refine w_iload_n dX7_readTraces_32 rfl ?_
    refine w_iconst (v := nI 1) dX7_readTraces_33 (by decide) ?_
    first | refine w_iaddN dX7_readTraces_34 ?_ | refine w_iadd dX7_readTraces_34 ?_
    refine w_iload_n dX7_readTraces_35 rfl ?_
    refine w_icmp_ge (tgt := 112) dX7_readTraces_36 (by decide) (fun c_36 => ?_) (fun c_36 => ?_)
    · try simp (disch := omega) only [nI_b2, Decidable.not_not, nI_ltI, nI_leI, nI_eq, ge_iff_le, gt_iff_lt, ne_eq, Nat.not_lt, Nat.not_le] at c_36
      refine w_iload_n dX7_readTraces_112 rfl ?_
      refine w_iret dX7_readTraces_113 rfl (Nat.le_of_ble_eq_true rfl) (Nat.le_of_ble_eq_true rfl) ?_
      have e : i = n / 2 := by omega
      subst e
      exact hQ hpre
    · try simp (disch := omega) only [nI_b2, Decidable.not_not, nI_ltI, nI_leI, nI_eq, ge_iff_le, gt_iff_lt, ne_eq, Nat.not_lt, Nat.not_le] at c_36
      refine w_aload_n dX7_readTraces_39 rfl ?_
      refine w_getf dX7_readTraces_40 fl_X7_9 (by first | assumption | exact gs_at | (rw [gs_ne (by omega)]; (first | assumption | exact gs_at | (rw [gs_ne (by omega)]; (first | assumption | exact gs_at | (rw [gs_ne (by omega)]; (first | assumption | exact gs_at | (rw [gs_ne (by omega)]; (first | assumption | exact gs_at))))))))) rfl ?_
      refine w_iload_n dX7_readTraces_43 rfl ?_
      refine wS2u dX7_readTraces_44 lk_X7_137 rfl (c_atN (f := fun i => nI (f i)) hT0 (by omega) (by decide)) (Nat.le_of_ble_eq_true rfl) (Nat.le_of_ble_eq_true rfl) (Nat.le_of_ble_eq_true rfl) (Nat.le_of_ble_eq_true rfl) ?_
      refine w_istore_4 dX7_readTraces_47 rfl ?_
      refine w_aload_n dX7_readTraces_49 rfl ?_
      refine w_getf dX7_readTraces_50 fl_X7_9 (by first | assumption | exact gs_at | (rw [gs_ne (by omega)]; (first | assumption | exact gs_at | (rw [gs_ne (by omega)]; (first | assumption | exact gs_at | (rw [gs_ne (by omega)]; (first | assumption | exact gs_at | (rw [gs_ne (by omega)]; (first | assumption | exact gs_at))))))))) rfl ?_
      refine w_iload_n dX7_readTraces_53 rfl ?_
      refine w_iconst (v := nI 1) dX7_readTraces_54 (by decide) ?_
      first | refine w_iaddN dX7_readTraces_55 ?_ | refine w_iadd dX7_readTraces_55 ?_
      refine wS2u dX7_readTraces_56 lk_X7_137 rfl (c_atN (f := fun i => nI (f i)) hT0 (by omega) (by decide)) (Nat.le_of_ble_eq_true rfl) (Nat.le_of_ble_eq_true rfl) (Nat.le_of_ble_eq_true rfl) (Nat.le_of_ble_eq_true rfl) ?_
      refine w_istore_5 dX7_readTraces_59 rfl ?_
      refine w_iload dX7_readTraces_61 rfl ?_
      refine w_bipush (v := nI 6) dX7_readTraces_63 (by decide) ?_
      refine w_icmp_ge (tgt := 74) dX7_readTraces_65 (by decide) (fun c_65 => ?_) (fun c_65 => ?_)
      · try simp (disch := omega) only [nI_b2, Decidable.not_not, nI_ltI, nI_leI, nI_eq, ge_iff_le, gt_iff_lt, ne_eq, Nat.not_lt, Nat.not_le] at c_65
        first
          | exact w_throwW (i := 41) (names := ["java/lang/RuntimeException", "java/lang/Exception"]) rfl rfl (by decide +kernel) (by decide +kernel) u_745 u_19 at_iae rfl dX7_readTraces_74 dX7_readTraces_77 dX7_readTraces_78 dX7_readTraces_81 dX7_readTraces_84 rfl (by decide) (by decide) (Nat.le_of_ble_eq_true rfl) (Nat.le_of_ble_eq_true rfl) (fun n9 h9 => hx (fun h => by have h9 := h i (by omega); omega) n9 h9)
      · try simp (disch := omega) only [nI_b2, Decidable.not_not, nI_ltI, nI_leI, nI_eq, ge_iff_le, gt_iff_lt, ne_eq, Nat.not_lt, Nat.not_le] at c_65
        refine w_iload dX7_readTraces_68 rfl ?_
        refine w_iconst (v := nI 1) dX7_readTraces_70 (by decide) ?_
        refine w_icmp_le (tgt := 85) dX7_readTraces_71 (by decide) (fun c_71 => ?_) (fun c_71 => ?_)
        · try simp (disch := omega) only [nI_b2, Decidable.not_not, nI_ltI, nI_leI, nI_eq, ge_iff_le, gt_iff_lt, ne_eq, Nat.not_lt, Nat.not_le] at c_71
          refine w_iload_n dX7_readTraces_85 rfl ?_
          refine w_iconst (v := nI 1) dX7_readTraces_86 (by decide) ?_
          refine w_iload dX7_readTraces_87 rfl ?_
          refine w_iconst (v := nI 1) dX7_readTraces_89 (by decide) ?_
          refine w_icmp_ne (tgt := 98) dX7_readTraces_90 (by decide) (fun c_90 => ?_) (fun c_90 => ?_)
          · try simp (disch := omega) only [nI_b2, Decidable.not_not, nI_ltI, nI_leI, nI_eq, ge_iff_le, gt_iff_lt, ne_eq, Nat.not_lt, Nat.not_le] at c_90
            refine w_iload dX7_readTraces_98 rfl ?_
            refine w_bipush (v := nI 6) dX7_readTraces_100 (by decide) ?_
            first | refine w_iaddN dX7_readTraces_102 ?_ | refine w_iadd dX7_readTraces_102 ?_
            refine w_ishlN (by omega) (p2_lt (by omega)) dX7_readTraces_103 ?_
            first | refine w_iorN dX7_readTraces_104 ?_ | refine w_ior dX7_readTraces_104 ?_
            refine w_istore_2 dX7_readTraces_105 rfl ?_
            refine w_iinc_3 dX7_readTraces_106 (nI_2 _) rfl ?_
            refine w_goto (tgt := 32) dX7_readTraces_109 (by decide) ?_
            have hN := ih (i + 1) (.int (nI (f (2 * i)))) (.int (nI (f (2 * i + 1)))) (by omega) (by omega) (fun j hj => by by_cases e : j = i; (rw [e]; exact ⟨by omega, by omega⟩); exact hpre j (by omega))
            rw [trT, Nat.mul_add, Nat.mul_one] at hN
            first
              | (rw [if_pos (by omega)] at hN; exact hN)
              | (rw [if_neg (by omega)] at hN; exact hN)
          · try simp (disch := omega) only [nI_b2, Decidable.not_not, nI_ltI, nI_leI, nI_eq, ge_iff_le, gt_iff_lt, ne_eq, Nat.not_lt, Nat.not_le] at c_90
            refine w_iload dX7_readTraces_93 rfl ?_
            refine w_goto (tgt := 103) dX7_readTraces_95 (by decide) ?_
            refine w_ishlN (by omega) (p2_lt (by omega)) dX7_readTraces_103 ?_
            first | refine w_iorN dX7_readTraces_104 ?_ | refine w_ior dX7_readTraces_104 ?_
            refine w_istore_2 dX7_readTraces_105 rfl ?_
            refine w_iinc_3 dX7_readTraces_106 (nI_2 _) rfl ?_
            refine w_goto (tgt := 32) dX7_readTraces_109 (by decide) ?_
            have hN := ih (i + 1) (.int (nI (f (2 * i)))) (.int (nI (f (2 * i + 1)))) (by omega) (by omega) (fun j hj => by by_cases e : j = i; (rw [e]; exact ⟨by omega, by omega⟩); exact hpre j (by omega))
            rw [trT, Nat.mul_add, Nat.mul_one] at hN
            first
              | (rw [if_pos (by omega)] at hN; exact hN)
              | (rw [if_neg (by omega)] at hN; exact hN)
        · try simp (disch := omega) only [nI_b2, Decidable.not_not, nI_ltI, nI_leI, nI_eq, ge_iff_le, gt_iff_lt, ne_eq, Nat.not_lt, Nat.not_le] at c_71
          first
            | exact w_throwW (i := 41) (names := ["java/lang/RuntimeException", "java/lang/Exception"]) rfl rfl (by decide +kernel) (by decide +kernel) u_745 u_19 at_iae rfl dX7_readTraces_74 dX7_readTraces_77 dX7_readTraces_78 dX7_readTraces_81 dX7_readTraces_84 rfl (by decide) (by decide) (Nat.le_of_ble_eq_true rfl) (Nat.le_of_ble_eq_true rfl) (fun n9 h9 => hx (fun h => by have h9 := h i (by omega); omega) n9 h9)
theorem c_readTraces {E : EV} {G : AH} {B tn im nw rm ru sp : Nat} {f : Nat → Nat} {wb sd si : Int32} {T Ti : ST} {D Di : LD} {P : Nat → ST × Int32} (hH : HI G B tn f wb T sd D im Ti si Di nw rm P ru sp) : Ct E 9 1 6 kX7_readTraces [.ref B] G (fun o G1 => XOut ["java/lang/IllegalArgumentException"] (xk1 (trOk f tn)) (nI (trT f (tn / 2))) o ∧ HI G1 B (0) f wb T sd D im Ti si Di nw rm P ru sp ∧ FH G G1 B) := by
  refine Ct.intro rfl (by decide) [.ref B, .float 0, .float 0, .float 0, .float 0, .float 0] (by simp [Value.category]) (Nat.le_of_ble_eq_true rfl) rfl ?_
  obtain ⟨hB, ⟨htn, him, hnw, hrm⟩, hT, hRd, ⟨hI, hBd⟩, hS, ⟨hL, hD, hSp, hrs⟩, ⟨hIi, hBi, hLi, hDi⟩, ⟨hPa, hPi⟩, ⟨⟨we, hwe⟩, hSm, hSv, ⟨od, hod⟩⟩⟩ := id hH; obtain ⟨⟨_, _, _, _, _, _, gS0⟩, _⟩ := id hS; have hI0 := hI.1; have hIi0 := hIi.1; have hSm0 := hSm.1; have hSv0 := hSv.1
  obtain ⟨i0, i1, i2, i3, i4, i5, i6, i7, i8, i9, i10, i11, i12, i13⟩ := id hI
  obtain ⟨b0, b1, b2_, b3, b4, b5, b6, b7, b8, b9, b10, b11, b12, b13, b14, b15, b16, b17, b18, b19⟩ := id hBd
  have hls := HI.ls hH
  have hla : ru + 6 ≤ B + 9 ∨ B + 9 + 14 ≤ ru := by omega
  have hlb : ru + 6 ≤ B + 23 ∨ B + 23 + 14 ≤ ru := by omega
  have hH0 : HI (gs G B (hO B (0) wb ru sp im nw rm)) B (0) f wb T sd D im Ti si Di nw rm P ru sp := hH.obj (by omega)
  have hF0 : FH G _ B := FH.gs (b := B) (x := hO B (0) wb ru sp im nw rm) (Nat.le_refl _) (by omega)
  refine w_aload_n dX7_readTraces_0 rfl ?_
  refine wV0u dX7_readTraces_1 lk_X7_98 rfl (by first | assumption | exact gs_at | (rw [gs_ne (by omega)]; (first | assumption | exact gs_at | (rw [gs_ne (by omega)]; (first | assumption | exact gs_at | (rw [gs_ne (by omega)]; (first | assumption | exact gs_at | (rw [gs_ne (by omega)]; (first | assumption | exact gs_at))))))))) rfl rfl (c_usedTape hB) (Nat.le_of_ble_eq_true rfl) (Nat.le_of_ble_eq_true rfl) (Nat.le_of_ble_eq_true rfl) (Nat.le_of_ble_eq_true rfl) ?_
  refine w_istore_1 dX7_readTraces_4 rfl ?_
  refine w_iload_n dX7_readTraces_5 rfl ?_
  refine w_bipush (v := nI 40) dX7_readTraces_6 (by decide) ?_
  refine w_icmp_gt (tgt := 17) dX7_readTraces_8 (by decide) (fun c_8 => ?_) (fun c_8 => ?_)
  · try simp (disch := omega) only [nI_b2, Decidable.not_not, nI_ltI, nI_leI, nI_eq, ge_iff_le, gt_iff_lt, ne_eq, Nat.not_lt, Nat.not_le] at c_8
    first
      | exact w_throwW (i := 41) (names := ["java/lang/RuntimeException", "java/lang/Exception"]) rfl rfl (by decide +kernel) (by decide +kernel) u_745 u_19 at_iae rfl dX7_readTraces_17 dX7_readTraces_20 dX7_readTraces_21 dX7_readTraces_24 dX7_readTraces_27 rfl (by decide) (by decide) (Nat.le_of_ble_eq_true rfl) (Nat.le_of_ble_eq_true rfl) (fun n9 h9 => ⟨XOut.no (j := 0) (by rw [xk1, if_neg (fun h => by have h1 := h.1; have h2 := h.2.1; omega)]) rfl, hH0.x, hF0.tr (FH.x h9)⟩)
  · try simp (disch := omega) only [nI_b2, Decidable.not_not, nI_ltI, nI_leI, nI_eq, ge_iff_le, gt_iff_lt, ne_eq, Nat.not_lt, Nat.not_le] at c_8
    refine w_iload_n dX7_readTraces_11 rfl ?_
    refine w_iconst (v := nI 2) dX7_readTraces_12 (by decide) ?_
    first | refine w_iremN (by omega) (by omega) (by omega) dX7_readTraces_13 ?_ | refine w_irem dX7_readTraces_13 (by decide) ?_
    refine w_ifN_eq (tgt := 28) dX7_readTraces_14 (by decide) (fun c_14 => ?_) (fun c_14 => ?_)
    · try simp (disch := omega) only [nI_b2, Decidable.not_not, nI_ltI, nI_leI, nI_eq, ge_iff_le, gt_iff_lt, ne_eq, Nat.not_lt, Nat.not_le] at c_14
      refine w_iconst (v := nI 0) dX7_readTraces_28 (by decide) ?_
      refine w_istore_2 dX7_readTraces_29 rfl ?_
      refine w_iconst (v := nI 0) dX7_readTraces_30 (by decide) ?_
      refine w_istore_3 dX7_readTraces_31 rfl ?_
      exact lp_rdt hH0 (by omega) (by omega) (fun h n9 h9 => ⟨XOut.no (j := 0) (by rw [xk1, if_neg (fun h2 => h h2.2.2)]) rfl, hH0.x, hF0.tr (FH.x h9)⟩) (fun h => ⟨XOut.ok (by rw [xk1, if_pos ⟨by omega, by omega, h⟩]) rfl, hH0, hF0⟩) (tn / 2 + 1) 0 (.float 0) (.float 0) (by omega) (by omega) (fun j hj => absurd hj (by omega))
    · try simp (disch := omega) only [nI_b2, Decidable.not_not, nI_ltI, nI_leI, nI_eq, ge_iff_le, gt_iff_lt, ne_eq, Nat.not_lt, Nat.not_le] at c_14
      first
        | exact w_throwW (i := 41) (names := ["java/lang/RuntimeException", "java/lang/Exception"]) rfl rfl (by decide +kernel) (by decide +kernel) u_745 u_19 at_iae rfl dX7_readTraces_17 dX7_readTraces_20 dX7_readTraces_21 dX7_readTraces_24 dX7_readTraces_27 rfl (by decide) (by decide) (Nat.le_of_ble_eq_true rfl) (Nat.le_of_ble_eq_true rfl) (fun n9 h9 => ⟨XOut.no (j := 0) (by rw [xk1, if_neg (fun h => by have h1 := h.1; have h2 := h.2.1; omega)]) rfl, hH0.x, hF0.tr (FH.x h9)⟩)
theorem rdt_x {f : Nat → Nat} {tn : Nat} {v w : Int32} {X : String} (h : XOut ["java/lang/IllegalArgumentException"] (xk1 (trOk f tn)) v (.inr X)) : XOut ["java/lang/IllegalArgumentException"] (xk1 (trOk f tn)) w (.inr X) := by
  refine ⟨fun e => ?_, h.2⟩
  have := h.1 e
  cases this
theorem rdt_v {f : Nat → Nat} {tn : Nat} {v : Int32} {o : Option Value} (h : XOut ["java/lang/IllegalArgumentException"] (xk1 (trOk f tn)) v (.inl o)) : trOk f tn ∧ o = some (.int v) := by
  by_cases hok : trOk f tn
  · have h1 := h.1 (by rw [xk1, if_pos hok])
    exact ⟨hok, Sum.inl.inj h1⟩
  · have h1 := h.2 0 _ (by rw [xk1, if_neg hok]) rfl
    cases h1
theorem lp_traces {E : EV} {Q : OC → AH → Prop} {G : AH} {B t : Nat} {x : Value} (ht : t < 2 ^ 30) (hQ : Q (.inl (some (.int (nI (tsN t 36))))) G) : ∀ (k i : Nat), 36 - i < k → i ≤ 36 → Wp E 10 1 6 kX7_traces Q G (1, 6) 31 [.ref B, x, .int (nI t), .int (nI (tsN t i)), .int (nI i)] [] := by
  intro k
  induction k with
  | zero => intro i h; exact absurd h (by omega)
  | succ k ih =>
    intro i hk hi
    refine w_iload dX7_traces_31 rfl ?_
    refine w_bipush (v := nI 36) dX7_traces_33 (by decide) ?_
    refine w_icmp_ge (tgt := 61) dX7_traces_35 (by decide) (fun c_35 => ?_) (fun c_35 => ?_)
    · try simp (disch := omega) only [nI_b2, Decidable.not_not, nI_ltI, nI_leI, nI_eq, ge_iff_le, gt_iff_lt, ne_eq, Nat.not_lt, Nat.not_le] at c_35
      refine w_iload_n dX7_traces_61 rfl ?_
      refine w_iret dX7_traces_62 rfl (Nat.le_of_ble_eq_true rfl) (Nat.le_of_ble_eq_true rfl) ?_
      have e : i = 36 := by omega
      subst e
      exact hQ
    · try simp (disch := omega) only [nI_b2, Decidable.not_not, nI_ltI, nI_leI, nI_eq, ge_iff_le, gt_iff_lt, ne_eq, Nat.not_lt, Nat.not_le] at c_35
      refine w_iload dX7_traces_38 rfl ?_
      refine w_iload_n dX7_traces_40 rfl ?_
      refine wS2u dX7_traces_41 lk_X7_319 rfl (c_fits (by omega) ht) (Nat.le_of_ble_eq_true rfl) (Nat.le_of_ble_eq_true rfl) (Nat.le_of_ble_eq_true rfl) (Nat.le_of_ble_eq_true rfl) ?_
      refine w_ifN_eq (tgt := 55) dX7_traces_44 (by decide) (fun c_44 => ?_) (fun c_44 => ?_)
      · try simp (disch := omega) only [nI_b2, Decidable.not_not, nI_ltI, nI_leI, nI_eq, ge_iff_le, gt_iff_lt, ne_eq, Nat.not_lt, Nat.not_le] at c_44
        first | refine w_iinc_4 dX7_traces_55 (nI_inc _) rfl ?_ | refine w_iinc_4 dX7_traces_55 rfl rfl ?_
        refine w_goto (tgt := 31) dX7_traces_58 (by decide) ?_
        have hN := ih (i + 1) (by omega) (by omega)
        rw [tsN] at hN
        first
          | (rw [if_pos c_44] at hN; exact hN)
          | (rw [if_neg c_44] at hN; exact hN)
      · try simp (disch := omega) only [nI_b2, Decidable.not_not, nI_ltI, nI_leI, nI_eq, ge_iff_le, gt_iff_lt, ne_eq, Nat.not_lt, Nat.not_le] at c_44
        refine w_iload_n dX7_traces_47 rfl ?_
        refine w_iload dX7_traces_48 rfl ?_
        refine wS1u dX7_traces_50 lk_X7_323 rfl (c_roomsOf (by omega)) (Nat.le_of_ble_eq_true rfl) (Nat.le_of_ble_eq_true rfl) (Nat.le_of_ble_eq_true rfl) (Nat.le_of_ble_eq_true rfl) ?_
        first | refine w_iandN dX7_traces_53 ?_ | refine w_iand dX7_traces_53 ?_
        refine w_istore_3 dX7_traces_54 rfl ?_
        first | refine w_iinc_4 dX7_traces_55 (nI_inc _) rfl ?_ | refine w_iinc_4 dX7_traces_55 rfl rfl ?_
        refine w_goto (tgt := 31) dX7_traces_58 (by decide) ?_
        have hN := ih (i + 1) (by omega) (by omega)
        rw [tsN] at hN
        first
          | (rw [if_pos c_44] at hN; exact hN)
          | (rw [if_neg c_44] at hN; exact hN)
theorem c_traces {E : EV} {G : AH} {B tn im nw rm ru sp : Nat} {f : Nat → Nat} {wb sd si : Int32} {T Ti : ST} {D Di : LD} {P : Nat → ST × Int32} {su : Nat} (hH : HI G B tn f wb T sd D im Ti si Di nw rm P ru sp) (hsu : su < 2 ^ 30) : Ct E 10 1 6 kX7_traces [.ref B, .int (nI su)] G (fun o G1 => XOut ["java/lang/IllegalArgumentException"] (xk1 (trOk f tn)) (trcV (trT f (tn / 2)) su) o ∧ HI G1 B (0) f wb T sd D im Ti si Di nw rm P ru sp ∧ FH G G1 B) := by
  refine Ct.intro rfl (by decide) [.ref B, .int (nI su), .float 0, .float 0, .float 0] (by simp [Value.category]) (Nat.le_of_ble_eq_true rfl) rfl ?_
  obtain ⟨hB, ⟨htn, him, hnw, hrm⟩, hT, hRd, ⟨hI, hBd⟩, hS, ⟨hL, hD, hSp, hrs⟩, ⟨hIi, hBi, hLi, hDi⟩, ⟨hPa, hPi⟩, ⟨⟨we, hwe⟩, hSm, hSv, ⟨od, hod⟩⟩⟩ := id hH; obtain ⟨⟨_, _, _, _, _, _, gS0⟩, _⟩ := id hS; have hI0 := hI.1; have hIi0 := hIi.1; have hSm0 := hSm.1; have hSv0 := hSv.1
  obtain ⟨i0, i1, i2, i3, i4, i5, i6, i7, i8, i9, i10, i11, i12, i13⟩ := id hI
  obtain ⟨b0, b1, b2_, b3, b4, b5, b6, b7, b8, b9, b10, b11, b12, b13, b14, b15, b16, b17, b18, b19⟩ := id hBd
  have hls := HI.ls hH
  have hla : ru + 6 ≤ B + 9 ∨ B + 9 + 14 ≤ ru := by omega
  have hlb : ru + 6 ≤ B + 23 ∨ B + 23 + 14 ≤ ru := by omega
  refine w_aload_n dX7_traces_0 rfl ?_
  refine wc_V dX7_traces_1 lk_X7_313 rfl (As := []) rfl hB rfl rfl (Nat.le_of_ble_eq_true rfl) (c_readTraces hH) rfl (Nat.le_of_ble_eq_true rfl) (Nat.le_of_ble_eq_true rfl) (Nat.le_of_ble_eq_true rfl) (fun v9 G h9 => ?_) (fun X9 G9 h9 => wx_out rfl (Nat.le_of_ble_eq_true rfl) (Nat.le_of_ble_eq_true rfl) (by obtain ⟨hx1, hx2, hx3⟩ := h9; exact ⟨(rdt_x hx1), hx2, hx3⟩))
  obtain ⟨hx1, hH, hFH⟩ := h9
  obtain ⟨hok, e9⟩ := rdt_v hx1
  cases e9
  obtain ⟨hB, ⟨htn, him, hnw, hrm⟩, hT, hRd, ⟨hI, hBd⟩, hS, ⟨hL, hD, hSp, hrs⟩, ⟨hIi, hBi, hLi, hDi⟩, ⟨hPa, hPi⟩, ⟨⟨we, hwe⟩, hSm, hSv, ⟨od, hod⟩⟩⟩ := id hH; obtain ⟨⟨_, _, _, _, _, _, gS0⟩, _⟩ := id hS; have hI0 := hI.1; have hIi0 := hIi.1; have hSm0 := hSm.1; have hSv0 := hSv.1
  have ht := trT_lt (tn / 2) (fun j hj => (hok.2.2 j hj).1)
  have hwl := fun s => wyN_le (trT f (tn / 2)) s 36
  have hwl0 := hwl 0
  refine w_istore_2 dX7_traces_4 rfl ?_
  refine w_iload_n dX7_traces_5 rfl ?_
  refine w_ifN_ne (tgt := 15) dX7_traces_6 (by decide) (fun c_6 => ?_) (fun c_6 => ?_)
  · try simp (disch := omega) only [nI_b2, Decidable.not_not, nI_ltI, nI_leI, nI_eq, ge_iff_le, gt_iff_lt, ne_eq, Nat.not_lt, Nat.not_le] at c_6
    refine w_iload_n dX7_traces_15 rfl ?_
    refine w_iconst (v := nI 0) dX7_traces_16 (by decide) ?_
    refine wS2u dX7_traces_17 lk_X7_316 rfl (c_ways (s := 0) (by omega) (by omega)) (Nat.le_of_ble_eq_true rfl) (Nat.le_of_ble_eq_true rfl) (Nat.le_of_ble_eq_true rfl) (Nat.le_of_ble_eq_true rfl) ?_
    refine w_ifN_ne (tgt := 25) dX7_traces_20 (by decide) (fun c_20 => ?_) (fun c_20 => ?_)
    · try simp (disch := omega) only [nI_b2, Decidable.not_not, nI_ltI, nI_leI, nI_eq, ge_iff_le, gt_iff_lt, ne_eq, Nat.not_lt, Nat.not_le] at c_20
      refine w_bipush (v := nI 63) dX7_traces_25 (by decide) ?_
      refine w_istore_3 dX7_traces_27 rfl ?_
      refine w_iconst (v := nI 0) dX7_traces_28 (by decide) ?_
      refine w_istore_4 dX7_traces_29 rfl ?_
      exact lp_traces (by omega) ⟨XOut.ok (by rw [xk1, if_pos hok]) (by rw [trcV, if_neg (by omega), if_neg (by omega)]), hH, hFH⟩ 37 0 (by omega) (by omega)
    · try simp (disch := omega) only [nI_b2, Decidable.not_not, nI_ltI, nI_leI, nI_eq, ge_iff_le, gt_iff_lt, ne_eq, Nat.not_lt, Nat.not_le] at c_20
      refine w_iconst (v := nI 0) dX7_traces_23 (by decide) ?_
      refine w_iret dX7_traces_24 rfl (Nat.le_of_ble_eq_true rfl) (Nat.le_of_ble_eq_true rfl) ?_
      refine ⟨XOut.ok (by rw [xk1, if_pos hok]) ?_, hH, hFH⟩
      first
        | (rw [trcV, if_pos (by omega)]; done)
        | (rw [trcV, if_neg (by omega), if_pos (by omega)]; done)
  · try simp (disch := omega) only [nI_b2, Decidable.not_not, nI_ltI, nI_leI, nI_eq, ge_iff_le, gt_iff_lt, ne_eq, Nat.not_lt, Nat.not_le] at c_6
    refine w_iload_n dX7_traces_9 rfl ?_
    refine w_iconst (v := nI 0) dX7_traces_10 (by decide) ?_
    refine wS2u dX7_traces_11 lk_X7_316 rfl (c_ways (s := 0) (by omega) (by omega)) (Nat.le_of_ble_eq_true rfl) (Nat.le_of_ble_eq_true rfl) (Nat.le_of_ble_eq_true rfl) (Nat.le_of_ble_eq_true rfl) ?_
    refine w_iret dX7_traces_14 rfl (Nat.le_of_ble_eq_true rfl) (Nat.le_of_ble_eq_true rfl) ?_
    refine ⟨XOut.ok (by rw [xk1, if_pos hok]) ?_, hH, hFH⟩
    first
      | (rw [trcV, if_pos (by omega)]; done)
      | (rw [trcV, if_neg (by omega), if_pos (by omega)]; done)
theorem lp_look {E : EV} {Q : OC → AH → Prop} {G : AH} {B t : Nat} (ht : t < 2 ^ 30) (hQ : Q (.inl (some (.int (lkS t 6).1))) G) : ∀ (k i : Nat), 6 - i < k → i ≤ 6 → ∀ x y : Value, Wp E 10 1 6 kX7_look Q G (1, 6) 28 [.ref B, .int (nI t), .int (nI (wyN t 0 36)), .int (lkS t i).1, .int (nI (lkS t i).2), .int (nI i), x, y] [] := by
  intro k
  induction k with
  | zero => intro i h; exact absurd h (by omega)
  | succ k ih =>
    intro i hk hi
    intro x y
    have hwl := wyN_le t (1 * 2 ^ i) 36
    have hkl := lkS_le t i
    have hp2 : i < 6 → 1 * 2 ^ i < 2 ^ 6 := fun h => by rw [Nat.one_mul]; exact Nat.pow_lt_pow_right (by decide) h
    refine w_iload dX7_look_28 rfl ?_
    refine w_bipush (v := nI 6) dX7_look_30 (by decide) ?_
    refine w_icmp_ge (tgt := 76) dX7_look_32 (by decide) (fun c_32 => ?_) (fun c_32 => ?_)
    · try simp (disch := omega) only [nI_b2, Decidable.not_not, nI_ltI, nI_leI, nI_eq, ge_iff_le, gt_iff_lt, ne_eq, Nat.not_lt, Nat.not_le] at c_32
      refine w_iload_n dX7_look_76 rfl ?_
      refine w_iret dX7_look_77 rfl (Nat.le_of_ble_eq_true rfl) (Nat.le_of_ble_eq_true rfl) ?_
      have e : i = 6 := by omega
      subst e
      exact hQ
    · try simp (disch := omega) only [nI_b2, Decidable.not_not, nI_ltI, nI_leI, nI_eq, ge_iff_le, gt_iff_lt, ne_eq, Nat.not_lt, Nat.not_le] at c_32
      refine w_iload_n dX7_look_35 rfl ?_
      refine w_iconst (v := nI 1) dX7_look_36 (by decide) ?_
      refine w_iload dX7_look_37 rfl ?_
      refine w_ishlN (by omega) (p2_lt (by omega)) dX7_look_39 ?_
      refine wS2u dX7_look_40 lk_X7_316 rfl (c_ways ht (by omega)) (Nat.le_of_ble_eq_true rfl) (Nat.le_of_ble_eq_true rfl) (Nat.le_of_ble_eq_true rfl) (Nat.le_of_ble_eq_true rfl) ?_
      refine w_istore_6 dX7_look_43 rfl ?_
      refine w_iload dX7_look_45 rfl ?_
      refine w_iload_n dX7_look_47 rfl ?_
      refine w_iload dX7_look_48 rfl ?_
      refine w_isubN (by omega) dX7_look_50 ?_
      refine wJ2u dX7_look_51 lk_X7_215 rfl (c_max (by omega) (by omega)) (Nat.le_of_ble_eq_true rfl) (Nat.le_of_ble_eq_true rfl) (Nat.le_of_ble_eq_true rfl) (Nat.le_of_ble_eq_true rfl) ?_
      refine w_istore_7 dX7_look_54 rfl ?_
      refine w_iload dX7_look_56 rfl ?_
      refine w_iload dX7_look_58 rfl ?_
      refine w_icmp_ge (tgt := 70) dX7_look_60 (by decide) (fun c_60 => ?_) (fun c_60 => ?_)
      · try simp (disch := omega) only [nI_b2, Decidable.not_not, nI_ltI, nI_leI, nI_eq, ge_iff_le, gt_iff_lt, ne_eq, Nat.not_lt, Nat.not_le] at c_60
        first | refine w_iinc_5 dX7_look_70 (nI_inc _) rfl ?_ | refine w_iinc_5 dX7_look_70 rfl rfl ?_
        refine w_goto (tgt := 28) dX7_look_73 (by decide) ?_
        have hN := ih (i + 1) (by omega) (by omega) (.int (nI (wyN t (1 * 2 ^ i) 36))) (.int (nI (max (wyN t (1 * 2 ^ i) 36) (wyN t 0 36 - wyN t (1 * 2 ^ i) 36))))
        rw [lkS] at hN
        first
          | (rw [if_pos c_60] at hN; exact hN)
          | (rw [if_neg (Nat.not_lt.mpr c_60)] at hN; exact hN)
      · try simp (disch := omega) only [nI_b2, Decidable.not_not, nI_ltI, nI_leI, nI_eq, ge_iff_le, gt_iff_lt, ne_eq, Nat.not_lt, Nat.not_le] at c_60
        refine w_iload dX7_look_63 rfl ?_
        refine w_istore_3 dX7_look_65 rfl ?_
        refine w_iload dX7_look_66 rfl ?_
        refine w_istore_4 dX7_look_68 rfl ?_
        first | refine w_iinc_5 dX7_look_70 (nI_inc _) rfl ?_ | refine w_iinc_5 dX7_look_70 rfl rfl ?_
        refine w_goto (tgt := 28) dX7_look_73 (by decide) ?_
        have hN := ih (i + 1) (by omega) (by omega) (.int (nI (wyN t (1 * 2 ^ i) 36))) (.int (nI (max (wyN t (1 * 2 ^ i) 36) (wyN t 0 36 - wyN t (1 * 2 ^ i) 36))))
        rw [lkS] at hN
        first
          | (rw [if_pos c_60] at hN; exact hN)
          | (rw [if_neg (Nat.not_lt.mpr c_60)] at hN; exact hN)
theorem c_look {E : EV} {G : AH} {B tn im nw rm ru sp : Nat} {f : Nat → Nat} {wb sd si : Int32} {T Ti : ST} {D Di : LD} {P : Nat → ST × Int32}  (hH : HI G B tn f wb T sd D im Ti si Di nw rm P ru sp)  : Ct E 10 1 6 kX7_look [.ref B] G (fun o G1 => XOut ["java/lang/IllegalArgumentException"] (xk1 (trOk f tn)) (lokV (trT f (tn / 2))) o ∧ HI G1 B (0) f wb T sd D im Ti si Di nw rm P ru sp ∧ FH G G1 B) := by
  refine Ct.intro rfl (by decide) [.ref B, .float 0, .float 0, .float 0, .float 0, .float 0, .float 0, .float 0] (by simp [Value.category]) (Nat.le_of_ble_eq_true rfl) rfl ?_
  obtain ⟨hB, ⟨htn, him, hnw, hrm⟩, hT, hRd, ⟨hI, hBd⟩, hS, ⟨hL, hD, hSp, hrs⟩, ⟨hIi, hBi, hLi, hDi⟩, ⟨hPa, hPi⟩, ⟨⟨we, hwe⟩, hSm, hSv, ⟨od, hod⟩⟩⟩ := id hH; obtain ⟨⟨_, _, _, _, _, _, gS0⟩, _⟩ := id hS; have hI0 := hI.1; have hIi0 := hIi.1; have hSm0 := hSm.1; have hSv0 := hSv.1
  obtain ⟨i0, i1, i2, i3, i4, i5, i6, i7, i8, i9, i10, i11, i12, i13⟩ := id hI
  obtain ⟨b0, b1, b2_, b3, b4, b5, b6, b7, b8, b9, b10, b11, b12, b13, b14, b15, b16, b17, b18, b19⟩ := id hBd
  have hls := HI.ls hH
  have hla : ru + 6 ≤ B + 9 ∨ B + 9 + 14 ≤ ru := by omega
  have hlb : ru + 6 ≤ B + 23 ∨ B + 23 + 14 ≤ ru := by omega
  refine w_aload_n dX7_look_0 rfl ?_
  refine wc_V dX7_look_1 lk_X7_313 rfl (As := []) rfl hB rfl rfl (Nat.le_of_ble_eq_true rfl) (c_readTraces hH) rfl (Nat.le_of_ble_eq_true rfl) (Nat.le_of_ble_eq_true rfl) (Nat.le_of_ble_eq_true rfl) (fun v9 G h9 => ?_) (fun X9 G9 h9 => wx_out rfl (Nat.le_of_ble_eq_true rfl) (Nat.le_of_ble_eq_true rfl) (by obtain ⟨hx1, hx2, hx3⟩ := h9; exact ⟨(rdt_x hx1), hx2, hx3⟩))
  obtain ⟨hx1, hH, hFH⟩ := h9
  obtain ⟨hok, e9⟩ := rdt_v hx1
  cases e9
  obtain ⟨hB, ⟨htn, him, hnw, hrm⟩, hT, hRd, ⟨hI, hBd⟩, hS, ⟨hL, hD, hSp, hrs⟩, ⟨hIi, hBi, hLi, hDi⟩, ⟨hPa, hPi⟩, ⟨⟨we, hwe⟩, hSm, hSv, ⟨od, hod⟩⟩⟩ := id hH; obtain ⟨⟨_, _, _, _, _, _, gS0⟩, _⟩ := id hS; have hI0 := hI.1; have hIi0 := hIi.1; have hSm0 := hSm.1; have hSv0 := hSv.1
  have ht := trT_lt (tn / 2) (fun j hj => (hok.2.2 j hj).1)
  have hwl := fun s => wyN_le (trT f (tn / 2)) s 36
  have hwl0 := hwl 0
  refine w_istore_1 dX7_look_4 rfl ?_
  refine w_iload_n dX7_look_5 rfl ?_
  refine w_iconst (v := nI 0) dX7_look_6 (by decide) ?_
  refine wS2u dX7_look_7 lk_X7_316 rfl (c_ways (s := 0) (by omega) (by omega)) (Nat.le_of_ble_eq_true rfl) (Nat.le_of_ble_eq_true rfl) (Nat.le_of_ble_eq_true rfl) (Nat.le_of_ble_eq_true rfl) ?_
  refine w_istore_2 dX7_look_10 rfl ?_
  refine w_iload_n dX7_look_11 rfl ?_
  refine w_iconst (v := nI 2) dX7_look_12 (by decide) ?_
  refine w_icmp_ge (tgt := 18) dX7_look_13 (by decide) (fun c_13 => ?_) (fun c_13 => ?_)
  · try simp (disch := omega) only [nI_b2, Decidable.not_not, nI_ltI, nI_leI, nI_eq, ge_iff_le, gt_iff_lt, ne_eq, Nat.not_lt, Nat.not_le] at c_13
    refine w_iconst (v := (-1)) dX7_look_18 (by decide) ?_
    refine w_istore_3 dX7_look_19 rfl ?_
    refine w_iload_n dX7_look_20 rfl ?_
    refine w_iconst (v := nI 1) dX7_look_21 (by decide) ?_
    first | refine w_iaddN dX7_look_22 ?_ | refine w_iadd dX7_look_22 ?_
    refine w_istore_4 dX7_look_23 rfl ?_
    refine w_iconst (v := nI 0) dX7_look_25 (by decide) ?_
    refine w_istore_5 dX7_look_26 rfl ?_
    exact lp_look (by omega) ⟨XOut.ok (by rw [xk1, if_pos hok]) (by rw [lokV, if_neg (by omega)]), hH, hFH⟩ 7 0 (by omega) (by omega) _ _
  · try simp (disch := omega) only [nI_b2, Decidable.not_not, nI_ltI, nI_leI, nI_eq, ge_iff_le, gt_iff_lt, ne_eq, Nat.not_lt, Nat.not_le] at c_13
    refine w_iconst (v := (-1)) dX7_look_16 (by decide) ?_
    refine w_iret dX7_look_17 rfl (Nat.le_of_ble_eq_true rfl) (Nat.le_of_ble_eq_true rfl) ?_
    refine ⟨XOut.ok (by rw [xk1, if_pos hok]) ?_, hH, hFH⟩
    rw [lokV, if_pos (by omega)]
