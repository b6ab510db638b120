/-! the model: traces -/
theorem m_passes {E : EV} {w r : Nat} {G : AH} (hw : w < 36) (hr : r < 6) : Cu E 1 kX8_passes [.int (nI w), .int (nI r)] G (.int (nI (b2 (paP w r)))) G := by
  have hw6 : w / 6 < 6 := by omega
  have hw7 : w % 6 < 6 := by omega
  refine Ct.intro rfl (by decide) [.int (nI w), .int (nI r), .float 0, .float 0] (by simp [Value.category]) (Nat.le_of_ble_eq_true rfl) rfl ?_
  refine w_iload_n dX8_passes_0 rfl ?_
  refine w_bipush (v := nI 6) dX8_passes_1 (by decide) ?_
  first | refine w_idivN (by omega) (by omega) (by omega) dX8_passes_3 ?_ | refine w_idiv dX8_passes_3 (by decide) ?_
  refine w_istore_2 dX8_passes_4 rfl ?_
  refine w_iload_n dX8_passes_5 rfl ?_
  refine w_bipush (v := nI 6) dX8_passes_6 (by decide) ?_
  first | refine w_iremN (by omega) (by omega) (by omega) dX8_passes_8 ?_ | refine w_irem dX8_passes_8 (by decide) ?_
  refine w_iload_n dX8_passes_9 rfl ?_
  refine w_isub dX8_passes_10 ?_
  refine w_bipush (v := nI 6) dX8_passes_11 (by decide) ?_
  refine w_iadd dX8_passes_13 ?_
  rw [add_sub6 hw7 hw6]
  refine w_bipush (v := nI 6) dX8_passes_14 (by decide) ?_
  first | refine w_iremN (by omega) (by omega) (by omega) dX8_passes_16 ?_ | refine w_irem dX8_passes_16 (by decide) ?_
  refine w_istore_3 dX8_passes_17 rfl ?_
  refine w_iload_n dX8_passes_18 rfl ?_
  refine w_iload_n dX8_passes_19 rfl ?_
  refine w_isub dX8_passes_20 ?_
  refine w_bipush (v := nI 6) dX8_passes_21 (by decide) ?_
  refine w_iadd dX8_passes_23 ?_
  rw [add_sub6 hr hw6]
  refine w_bipush (v := nI 6) dX8_passes_24 (by decide) ?_
  first | refine w_iremN (by omega) (by omega) (by omega) dX8_passes_26 ?_ | refine w_irem dX8_passes_26 (by decide) ?_
  refine w_iload_n dX8_passes_27 rfl ?_
  refine w_icmp_gt (tgt := 35) dX8_passes_28 (by decide) (fun c_28 => ?_) (fun c_28 => ?_)
  · try simp (disch := omega) only [nI_b2, Decidable.not_not, nI_ltI, nI_leI, nI_eq, ge_iff_le, gt_iff_lt, ne_eq, Nat.not_lt, Nat.not_le] at c_28
    refine w_iconst (v := nI 0) dX8_passes_35 (by decide) ?_
    refine w_zret dX8_passes_36 rfl rfl (Nat.le_of_ble_eq_true rfl) (Nat.le_of_ble_eq_true rfl) ?_
    refine ⟨?_, rfl⟩
    first
      | (rw [b2, if_pos c_28]; done)
      | (rw [b2, if_neg (fun h => by unfold paP at h; omega)]; done)
  · try simp (disch := omega) only [nI_b2, Decidable.not_not, nI_ltI, nI_leI, nI_eq, ge_iff_le, gt_iff_lt, ne_eq, Nat.not_lt, Nat.not_le] at c_28
    refine w_iconst (v := nI 1) dX8_passes_31 (by decide) ?_
    refine w_goto (tgt := 36) dX8_passes_32 (by decide) ?_
    refine w_zret dX8_passes_36 rfl rfl (Nat.le_of_ble_eq_true rfl) (Nat.le_of_ble_eq_true rfl) ?_
    refine ⟨?_, rfl⟩
    first
      | (rw [b2, if_pos c_28]; done)
      | (rw [b2, if_neg (fun h => by unfold paP at h; omega)]; done)
theorem ml_td0 {E : EV} {Q : OC → AH → Prop} {V n i : Nat} {x y : Value} {G : AH} (kk : Wp E 2 0 0 kX8_told Q G (0, 0) 72 [.ref V, .int (nI n), .int (nI 0), .int (nI i), x, y] []) : Wp E 2 0 0 kX8_told Q G (0, 0) 30 [.ref V, .int (nI n), .int (nI 0), .int (nI i), x, y] [] := by
  refine w_iload_n dX8_told_30 rfl ?_
  refine w_iload_n dX8_told_31 rfl ?_
  refine w_icmp_ge (tgt := 72) dX8_told_32 (by decide) (fun c_32 => ?_) (fun c_32 => ?_)
  · skip
    exact kk
  · skip
    refine w_iload_n dX8_told_35 rfl ?_
    refine w_ifN_eq (tgt := 72) dX8_told_36 (by decide) (fun c_36 => ?_) (fun c_36 => ?_)
    · skip
      exact kk
    · skip
      exact absurd rfl c_36
theorem ml_td1 {E : EV} {Q : OC → AH → Prop} {V n : Nat} {th hi ac ba en at_ fa dp io hm_ we sh so : Int32} {G : AH} {f : Nat → Nat} {x y : Value} (hV : G.1 V = some (mO V th hi ac (nI 0) ba en at_ fa dp io hm_ we sh so)) (hT5 : G.1 (V + 5) = some (aI 400 (fun i => nI (f i)))) (hn : n ≤ 400) (hf : ∀ i, f i < 256) (kk : (∀ j, j < n → f j < (if j % 2 = 0 then 6 else 2)) → Wp E 2 0 0 kX8_told Q G (0, 0) 72 [.ref V, .int (nI n), .int (nI 1), .int (nI n), x, y] []) (kx : (¬ ∀ j, j < n → f j < (if j % 2 = 0 then 6 else 2)) → ∀ i, Wp E 2 0 0 kX8_told Q G (0, 0) 72 [.ref V, .int (nI n), .int (nI 0), .int (nI i), x, y] []) : ∀ (k i : Nat), n - i < k → i ≤ n → (∀ j, j < i → f j < (if j % 2 = 0 then 6 else 2)) → Wp E 2 0 0 kX8_told Q G (0, 0) 30 [.ref V, .int (nI n), .int (nI 1), .int (nI i), x, y] [] := by
  intro k
  induction k with
  | zero => intro i h; exact absurd h (by omega)
  | succ k ih =>
    intro i hk hi4 hpre
    have hfi := hf i
    refine w_iload_n dX8_told_30 rfl ?_
    refine w_iload_n dX8_told_31 rfl ?_
    refine w_icmp_ge (tgt := 72) dX8_told_32 (by decide) (fun c_32 => ?_) (fun c_32 => ?_)
    · try simp (disch := omega) only [nI_b2, Decidable.not_not, nI_ltI, nI_leI, nI_eq, ge_iff_le, gt_iff_lt, ne_eq, Nat.not_lt, Nat.not_le] at c_32
      have e : i = n := by omega
      subst e
      exact kk hpre
    · try simp (disch := omega) only [nI_b2, Decidable.not_not, nI_ltI, nI_leI, nI_eq, ge_iff_le, gt_iff_lt, ne_eq, Nat.not_lt, Nat.not_le] at c_32
      refine w_iload_n dX8_told_35 rfl ?_
      refine w_ifN_eq (tgt := 72) dX8_told_36 (by decide) (fun c_36 => ?_) (fun c_36 => ?_)
      · try simp (disch := omega) only [nI_b2, Decidable.not_not, nI_ltI, nI_leI, nI_eq, ge_iff_le, gt_iff_lt, ne_eq, Nat.not_lt, Nat.not_le] at c_36
        exact absurd c_36 (by decide)
      · try simp (disch := omega) only [nI_b2, Decidable.not_not, nI_ltI, nI_leI, nI_eq, ge_iff_le, gt_iff_lt, ne_eq, Nat.not_lt, Nat.not_le] at c_36
        refine w_aload_n dX8_told_39 rfl ?_
        refine w_getf dX8_told_40 fl_X8_22 (by first | assumption | exact gs_at | (rw [gs_ne (by omega)]; (first | assumption | exact gs_at | (rw [gs_ne (by omega)]; (first | assumption | exact gs_at | (rw [gs_ne (by omega)]; (first | assumption | exact gs_at | (rw [gs_ne (by omega)]; (first | assumption | exact gs_at))))))))) rfl ?_
        refine w_iload_n dX8_told_43 rfl ?_
        refine w_iaload dX8_told_44 (by first | assumption | exact gs_at | (rw [gs_ne (by omega)]; (first | assumption | exact gs_at | (rw [gs_ne (by omega)]; (first | assumption | exact gs_at | (rw [gs_ne (by omega)]; (first | assumption | exact gs_at | (rw [gs_ne (by omega)]; (first | assumption | exact gs_at))))))))) (by first | assumption | exact vp_in_nI (by omega) (by omega) | exact vp_in_nI (by assumption) (by omega)) ?_
        rw [nI_clamp (by omega)]
        refine w_iload_n dX8_told_45 rfl ?_
        refine w_iconst (v := nI 2) dX8_told_46 (by decide) ?_
        first | refine w_iremN (by omega) (by omega) (by omega) dX8_told_47 ?_ | refine w_irem dX8_told_47 (by decide) ?_
        refine w_ifN_ne (tgt := 56) dX8_told_48 (by decide) (fun c_48 => ?_) (fun c_48 => ?_)
        · try simp (disch := omega) only [nI_b2, Decidable.not_not, nI_ltI, nI_leI, nI_eq, ge_iff_le, gt_iff_lt, ne_eq, Nat.not_lt, Nat.not_le] at c_48
          refine w_iconst (v := nI 2) dX8_told_56 (by decide) ?_
          refine w_icmp_ge (tgt := 64) dX8_told_57 (by decide) (fun c_57 => ?_) (fun c_57 => ?_)
          · try simp (disch := omega) only [nI_b2, Decidable.not_not, nI_ltI, nI_leI, nI_eq, ge_iff_le, gt_iff_lt, ne_eq, Nat.not_lt, Nat.not_le] at c_57
            refine w_iconst (v := nI 0) dX8_told_64 (by decide) ?_
            refine w_istore_2 dX8_told_65 rfl ?_
            first | refine w_iinc_3 dX8_told_66 (nI_inc _) rfl ?_ | refine w_iinc_3 dX8_told_66 rfl rfl ?_
            refine w_goto (tgt := 30) dX8_told_69 (by decide) ?_
            first
              | exact ih (i + 1) (by omega) (by omega) (fun j hj => by by_cases e : j = i; (subst e; first | (rw [if_pos (by omega)]; omega) | (rw [if_neg (by omega)]; omega)); exact hpre j (by omega))
              | exact ml_td0 (kx (fun h => by have h9 := h i (by omega); first | (rw [if_pos (by omega)] at h9; omega) | (rw [if_neg (by omega)] at h9; omega)) _)
          · try simp (disch := omega) only [nI_b2, Decidable.not_not, nI_ltI, nI_leI, nI_eq, ge_iff_le, gt_iff_lt, ne_eq, Nat.not_lt, Nat.not_le] at c_57
            refine w_iconst (v := nI 1) dX8_told_60 (by decide) ?_
            refine w_goto (tgt := 65) dX8_told_61 (by decide) ?_
            refine w_istore_2 dX8_told_65 rfl ?_
            first | refine w_iinc_3 dX8_told_66 (nI_inc _) rfl ?_ | refine w_iinc_3 dX8_told_66 rfl rfl ?_
            refine w_goto (tgt := 30) dX8_told_69 (by decide) ?_
            first
              | exact ih (i + 1) (by omega) (by omega) (fun j hj => by by_cases e : j = i; (subst e; first | (rw [if_pos (by omega)]; omega) | (rw [if_neg (by omega)]; omega)); exact hpre j (by omega))
              | exact ml_td0 (kx (fun h => by have h9 := h i (by omega); first | (rw [if_pos (by omega)] at h9; omega) | (rw [if_neg (by omega)] at h9; omega)) _)
        · try simp (disch := omega) only [nI_b2, Decidable.not_not, nI_ltI, nI_leI, nI_eq, ge_iff_le, gt_iff_lt, ne_eq, Nat.not_lt, Nat.not_le] at c_48
          refine w_bipush (v := nI 6) dX8_told_51 (by decide) ?_
          refine w_goto (tgt := 57) dX8_told_53 (by decide) ?_
          refine w_icmp_ge (tgt := 64) dX8_told_57 (by decide) (fun c_57 => ?_) (fun c_57 => ?_)
          · try simp (disch := omega) only [nI_b2, Decidable.not_not, nI_ltI, nI_leI, nI_eq, ge_iff_le, gt_iff_lt, ne_eq, Nat.not_lt, Nat.not_le] at c_57
            refine w_iconst (v := nI 0) dX8_told_64 (by decide) ?_
            refine w_istore_2 dX8_told_65 rfl ?_
            first | refine w_iinc_3 dX8_told_66 (nI_inc _) rfl ?_ | refine w_iinc_3 dX8_told_66 rfl rfl ?_
            refine w_goto (tgt := 30) dX8_told_69 (by decide) ?_
            first
              | exact ih (i + 1) (by omega) (by omega) (fun j hj => by by_cases e : j = i; (subst e; first | (rw [if_pos (by omega)]; omega) | (rw [if_neg (by omega)]; omega)); exact hpre j (by omega))
              | exact ml_td0 (kx (fun h => by have h9 := h i (by omega); first | (rw [if_pos (by omega)] at h9; omega) | (rw [if_neg (by omega)] at h9; omega)) _)
          · try simp (disch := omega) only [nI_b2, Decidable.not_not, nI_ltI, nI_leI, nI_eq, ge_iff_le, gt_iff_lt, ne_eq, Nat.not_lt, Nat.not_le] at c_57
            refine w_iconst (v := nI 1) dX8_told_60 (by decide) ?_
            refine w_goto (tgt := 65) dX8_told_61 (by decide) ?_
            refine w_istore_2 dX8_told_65 rfl ?_
            first | refine w_iinc_3 dX8_told_66 (nI_inc _) rfl ?_ | refine w_iinc_3 dX8_told_66 rfl rfl ?_
            refine w_goto (tgt := 30) dX8_told_69 (by decide) ?_
            first
              | exact ih (i + 1) (by omega) (by omega) (fun j hj => by by_cases e : j = i; (subst e; first | (rw [if_pos (by omega)]; omega) | (rw [if_neg (by omega)]; omega)); exact hpre j (by omega))
              | exact ml_td0 (kx (fun h => by have h9 := h i (by omega); first | (rw [if_pos (by omega)] at h9; omega) | (rw [if_neg (by omega)] at h9; omega)) _)
theorem ml_td3 {E : EV} {Q : OC → AH → Prop} {V n : Nat} {th hi ac ba en at_ fa dp io hm_ we sh so : Int32} {G : AH} {f : Nat → Nat} {w wy : Nat} {a : Nat → Int32} (hV : G.1 V = some (mO V th hi ac (nI 0) ba en at_ fa dp io hm_ we sh so)) (hT5 : G.1 (V + 5) = some (aI 400 (fun i => nI (f i)))) (hn : n ≤ 400) (kk : ∀ i, Wp E 2 0 0 kX8_told Q (gs G (V + 8) (aZ 36 a)) (0, 0) 168 [.ref V, .int (nI n), .int (nI 1), .int (nI (wy)), .int (nI w), .int (nI (i))] []) (hw : w < 36) (haw : a w = nI 0) {i : Nat} : Wp E 2 0 0 kX8_told Q (gs G (V + 8) (aZ 36 a)) (0, 0) 101 [.ref V, .int (nI n), .int (nI 1), .int (nI (wy)), .int (nI w), .int (nI (i))] [] := by
  refine w_iload dX8_told_101 rfl ?_
  refine w_iload_n dX8_told_103 rfl ?_
  refine w_icmp_ge (tgt := 168) dX8_told_104 (by decide) (fun c_104 => ?_) (fun c_104 => ?_)
  · skip
    exact kk _
  · skip
    refine w_aload_n dX8_told_107 rfl ?_
    refine w_getf dX8_told_108 fl_X8_35 (by first | assumption | exact gs_at | (rw [gs_ne (by omega)]; (first | assumption | exact gs_at | (rw [gs_ne (by omega)]; (first | assumption | exact gs_at | (rw [gs_ne (by omega)]; (first | assumption | exact gs_at | (rw [gs_ne (by omega)]; (first | assumption | exact gs_at))))))))) rfl ?_
    refine w_iload dX8_told_111 rfl ?_
    refine w_zaload dX8_told_113 (by first | assumption | exact gs_at | (rw [gs_ne (by omega)]; (first | assumption | exact gs_at | (rw [gs_ne (by omega)]; (first | assumption | exact gs_at | (rw [gs_ne (by omega)]; (first | assumption | exact gs_at | (rw [gs_ne (by omega)]; (first | assumption | exact gs_at))))))))) (by first | assumption | exact vp_in_nI (by omega) (by omega) | exact vp_in_nI (by assumption) (by omega)) ?_
    rw [nI_clamp (by omega)]
    rw [haw]
    refine w_ifN_eq (tgt := 168) dX8_told_114 (by decide) (fun c_114 => ?_) (fun c_114 => ?_)
    · skip
      exact kk _
    · skip
      exact absurd rfl c_114
theorem ml_td2 {E : EV} {Q : OC → AH → Prop} {V n : Nat} {th hi ac ba en at_ fa dp io hm_ we sh so : Int32} {G : AH} {f : Nat → Nat} {w wy : Nat} {a0 : Nat → Int32} (hV : G.1 V = some (mO V th hi ac (nI 0) ba en at_ fa dp io hm_ we sh so)) (hT5 : G.1 (V + 5) = some (aI 400 (fun i => nI (f i)))) (hn : n ≤ 400) (hn2 : n % 2 = 0) (hf : ∀ j, j < n / 2 → f (2 * j) < 6 ∧ f (2 * j + 1) ≤ 1) (hw : w < 36) (kk : ∀ (a : Nat → Int32) (i : Nat), (∀ v, v ≠ w → a v = a0 v) → a w = nI (b2 (ftP w (trT f (n / 2)))) → Wp E 2 0 0 kX8_told Q (gs G (V + 8) (aZ 36 a)) (0, 0) 168 [.ref V, .int (nI n), .int (nI 1), .int (nI (wy)), .int (nI w), .int (nI (i))] []) : ∀ (k j : Nat) (a : Nat → Int32), n / 2 - j < k → j ≤ n / 2 → (∀ v, v ≠ w → a v = a0 v) → a w = nI 1 → ftP w (trT f j) → Wp E 2 0 0 kX8_told Q (gs G (V + 8) (aZ 36 a)) (0, 0) 101 [.ref V, .int (nI n), .int (nI 1), .int (nI (wy)), .int (nI w), .int (nI (2 * j))] [] := by
  intro k
  induction k with
  | zero => intro j a h; exact absurd h (by omega)
  | succ k ih =>
    intro j a hk hj4 ha haw hft
    have hV2 : (gs G (V + 8) (aZ 36 a)).1 V = some (mO V th hi ac (nI 0) ba en at_ fa dp io hm_ we sh so) := (gs_ne (by omega)).trans hV
    have hT2 : (gs G (V + 8) (aZ 36 a)).1 (V + 5) = some (aI 400 (fun i => nI (f i))) := (gs_ne (by omega)).trans hT5
    refine w_iload dX8_told_101 rfl ?_
    refine w_iload_n dX8_told_103 rfl ?_
    refine w_icmp_ge (tgt := 168) dX8_told_104 (by decide) (fun c_104 => ?_) (fun c_104 => ?_)
    · try simp (disch := omega) only [nI_b2, Decidable.not_not, nI_ltI, nI_leI, nI_eq, ge_iff_le, gt_iff_lt, ne_eq, Nat.not_lt, Nat.not_le] at c_104
      have e : j = n / 2 := by omega
      refine kk a _ ha ?_
      rw [haw, b2, if_pos (by rw [← e]; exact hft)]
    · try simp (disch := omega) only [nI_b2, Decidable.not_not, nI_ltI, nI_leI, nI_eq, ge_iff_le, gt_iff_lt, ne_eq, Nat.not_lt, Nat.not_le] at c_104
      refine w_aload_n dX8_told_107 rfl ?_
      refine w_getf dX8_told_108 fl_X8_35 (by first | assumption | exact gs_at | (rw [gs_ne (by omega)]; (first | assumption | exact gs_at | (rw [gs_ne (by omega)]; (first | assumption | exact gs_at | (rw [gs_ne (by omega)]; (first | assumption | exact gs_at | (rw [gs_ne (by omega)]; (first | assumption | exact gs_at))))))))) rfl ?_
      refine w_iload dX8_told_111 rfl ?_
      refine w_zaload dX8_told_113 (by first | assumption | exact gs_at | (rw [gs_ne (by omega)]; (first | assumption | exact gs_at | (rw [gs_ne (by omega)]; (first | assumption | exact gs_at | (rw [gs_ne (by omega)]; (first | assumption | exact gs_at | (rw [gs_ne (by omega)]; (first | assumption | exact gs_at))))))))) (by first | assumption | exact vp_in_nI (by omega) (by omega) | exact vp_in_nI (by assumption) (by omega)) ?_
      rw [nI_clamp (by omega)]
      rw [haw]
      refine w_ifN_eq (tgt := 168) dX8_told_114 (by decide) (fun c_114 => ?_) (fun c_114 => ?_)
      · try simp (disch := omega) only [nI_b2, Decidable.not_not, nI_ltI, nI_leI, nI_eq, ge_iff_le, gt_iff_lt, ne_eq, Nat.not_lt, Nat.not_le] at c_114
        exact absurd c_114 (by decide)
      · try simp (disch := omega) only [nI_b2, Decidable.not_not, nI_ltI, nI_leI, nI_eq, ge_iff_le, gt_iff_lt, ne_eq, Nat.not_lt, Nat.not_le] at c_114
        obtain ⟨hf1, hf2⟩ := hf j (by omega)
        refine w_aload_n dX8_told_117 rfl ?_
        refine w_getf dX8_told_118 fl_X8_35 (by first | assumption | exact gs_at | (rw [gs_ne (by omega)]; (first | assumption | exact gs_at | (rw [gs_ne (by omega)]; (first | assumption | exact gs_at | (rw [gs_ne (by omega)]; (first | assumption | exact gs_at | (rw [gs_ne (by omega)]; (first | assumption | exact gs_at))))))))) rfl ?_
        refine w_iload dX8_told_121 rfl ?_
        refine w_iload dX8_told_123 rfl ?_
        refine w_aload_n dX8_told_125 rfl ?_
        refine w_getf dX8_told_126 fl_X8_22 (by first | assumption | exact gs_at | (rw [gs_ne (by omega)]; (first | assumption | exact gs_at | (rw [gs_ne (by omega)]; (first | assumption | exact gs_at | (rw [gs_ne (by omega)]; (first | assumption | exact gs_at | (rw [gs_ne (by omega)]; (first | assumption | exact gs_at))))))))) rfl ?_
        refine w_iload dX8_told_129 rfl ?_
        refine w_iaload dX8_told_131 (by first | assumption | exact gs_at | (rw [gs_ne (by omega)]; (first | assumption | exact gs_at | (rw [gs_ne (by omega)]; (first | assumption | exact gs_at | (rw [gs_ne (by omega)]; (first | assumption | exact gs_at | (rw [gs_ne (by omega)]; (first | assumption | exact gs_at))))))))) (by first | assumption | exact vp_in_nI (by omega) (by omega) | exact vp_in_nI (by assumption) (by omega)) ?_
        rw [nI_clamp (by omega)]
        refine wS2u dX8_told_132 lk_X8_328 rfl (m_passes hw hf1) (Nat.le_of_ble_eq_true rfl) (Nat.le_of_ble_eq_true rfl) (Nat.le_of_ble_eq_true rfl) (Nat.le_of_ble_eq_true rfl) ?_
        obtain ⟨u, hu, hu2⟩ : ∃ u, u = b2 (paP w (f (2 * j))) ∧ ((u = 1 ∧ paP w (f (2 * j))) ∨ (u = 0 ∧ ¬ paP w (f (2 * j)))) := ⟨_, rfl, by unfold b2; split; exact Or.inl ⟨rfl, by assumption⟩; exact Or.inr ⟨rfl, by assumption⟩⟩
        rw [← hu]
        have hfs := ft_step (y := f) (m := j) hw hf1
        have hu3 : u ≤ 1 := by rcases hu2 with ⟨h, -⟩ | ⟨h, -⟩ <;> omega
        refine w_aload_n dX8_told_135 rfl ?_
        refine w_getf dX8_told_136 fl_X8_22 (by first | assumption | exact gs_at | (rw [gs_ne (by omega)]; (first | assumption | exact gs_at | (rw [gs_ne (by omega)]; (first | assumption | exact gs_at | (rw [gs_ne (by omega)]; (first | assumption | exact gs_at | (rw [gs_ne (by omega)]; (first | assumption | exact gs_at))))))))) rfl ?_
        refine w_iload dX8_told_139 rfl ?_
        refine w_iconst (v := nI 1) dX8_told_141 (by decide) ?_
        first | refine w_iaddN dX8_told_142 ?_ | refine w_iadd dX8_told_142 ?_
        refine w_iaload dX8_told_143 (by first | assumption | exact gs_at | (rw [gs_ne (by omega)]; (first | assumption | exact gs_at | (rw [gs_ne (by omega)]; (first | assumption | exact gs_at | (rw [gs_ne (by omega)]; (first | assumption | exact gs_at | (rw [gs_ne (by omega)]; (first | assumption | exact gs_at))))))))) (by first | assumption | exact vp_in_nI (by omega) (by omega) | exact vp_in_nI (by assumption) (by omega)) ?_
        rw [nI_clamp (by omega)]
        refine w_iconst (v := nI 1) dX8_told_144 (by decide) ?_
        refine w_icmp_ne (tgt := 152) dX8_told_145 (by decide) (fun c_145 => ?_) (fun c_145 => ?_)
        · try simp (disch := omega) only [nI_b2, Decidable.not_not, nI_ltI, nI_leI, nI_eq, ge_iff_le, gt_iff_lt, ne_eq, Nat.not_lt, Nat.not_le] at c_145
          refine w_iconst (v := nI 0) dX8_told_152 (by decide) ?_
          refine w_icmp_ne (tgt := 160) dX8_told_153 (by decide) (fun c_153 => ?_) (fun c_153 => ?_)
          · try simp (disch := omega) only [nI_b2, Decidable.not_not, nI_ltI, nI_leI, nI_eq, ge_iff_le, gt_iff_lt, ne_eq, Nat.not_lt, Nat.not_le] at c_153
            refine w_iconst (v := nI 0) dX8_told_160 (by decide) ?_
            refine w_zastore dX8_told_161 (by first | assumption | exact gs_at | (rw [gs_ne (by omega)]; (first | assumption | exact gs_at | (rw [gs_ne (by omega)]; (first | assumption | exact gs_at | (rw [gs_ne (by omega)]; (first | assumption | exact gs_at | (rw [gs_ne (by omega)]; (first | assumption | exact gs_at))))))))) (by first | assumption | exact vp_in_nI (by omega) (by omega) | exact vp_in_nI (by assumption) (by omega)) ?_
            rw [nI_clamp (by omega)]
            refine w_iinc_5 dX8_told_162 (nI_2 _) rfl ?_
            refine w_goto (tgt := 101) dX8_told_165 (by decide) ?_
            rw [gs_gs]
            first
              | (have hgo : ftP w (trT f (j + 1)) := hfs.mpr ⟨hft, by rcases hu2 with ⟨h1, h2⟩ | ⟨h1, h2⟩; (exact ⟨fun _ => by omega, fun _ => h2⟩); (exact ⟨fun h => absurd h h2, fun h => by omega⟩)⟩; have h9 := ih (j + 1) (upd a w (nI 1)) (by omega) (by omega) (fun v hv => by rw [upd_ne hv]; exact ha v hv) upd_at hgo; rw [Nat.mul_add] at h9; exact h9)
              | (have hno : ¬ ftP w (trT f (j + 1)) := (fun h => by have h3 := (hfs.mp h).2; rcases hu2 with ⟨h1, h2⟩ | ⟨h1, h2⟩; (have := h3.mp h2; omega); (exact h2 (h3.mpr (by omega)))); exact ml_td3 hV hT5 hn (fun i => kk (upd a w (nI 0)) i (fun v hv => by rw [upd_ne hv]; exact ha v hv) (by rw [upd_at, b2, if_neg (fun h => hno (ft_mono (y := f) (m := j + 1) hw (n / 2 - (j + 1)) (fun i hi => (hf i (by omega)).1) (by rw [show j + 1 + (n / 2 - (j + 1)) = n / 2 by omega]; exact h)))])) hw upd_at)
          · try simp (disch := omega) only [nI_b2, Decidable.not_not, nI_ltI, nI_leI, nI_eq, ge_iff_le, gt_iff_lt, ne_eq, Nat.not_lt, Nat.not_le] at c_153
            refine w_iconst (v := nI 1) dX8_told_156 (by decide) ?_
            refine w_goto (tgt := 161) dX8_told_157 (by decide) ?_
            refine w_zastore dX8_told_161 (by first | assumption | exact gs_at | (rw [gs_ne (by omega)]; (first | assumption | exact gs_at | (rw [gs_ne (by omega)]; (first | assumption | exact gs_at | (rw [gs_ne (by omega)]; (first | assumption | exact gs_at | (rw [gs_ne (by omega)]; (first | assumption | exact gs_at))))))))) (by first | assumption | exact vp_in_nI (by omega) (by omega) | exact vp_in_nI (by assumption) (by omega)) ?_
            rw [nI_clamp (by omega)]
            refine w_iinc_5 dX8_told_162 (nI_2 _) rfl ?_
            refine w_goto (tgt := 101) dX8_told_165 (by decide) ?_
            rw [gs_gs]
            first
              | (have hgo : ftP w (trT f (j + 1)) := hfs.mpr ⟨hft, by rcases hu2 with ⟨h1, h2⟩ | ⟨h1, h2⟩; (exact ⟨fun _ => by omega, fun _ => h2⟩); (exact ⟨fun h => absurd h h2, fun h => by omega⟩)⟩; have h9 := ih (j + 1) (upd a w (nI 1)) (by omega) (by omega) (fun v hv => by rw [upd_ne hv]; exact ha v hv) upd_at hgo; rw [Nat.mul_add] at h9; exact h9)
              | (have hno : ¬ ftP w (trT f (j + 1)) := (fun h => by have h3 := (hfs.mp h).2; rcases hu2 with ⟨h1, h2⟩ | ⟨h1, h2⟩; (have := h3.mp h2; omega); (exact h2 (h3.mpr (by omega)))); exact ml_td3 hV hT5 hn (fun i => kk (upd a w (nI 0)) i (fun v hv => by rw [upd_ne hv]; exact ha v hv) (by rw [upd_at, b2, if_neg (fun h => hno (ft_mono (y := f) (m := j + 1) hw (n / 2 - (j + 1)) (fun i hi => (hf i (by omega)).1) (by rw [show j + 1 + (n / 2 - (j + 1)) = n / 2 by omega]; exact h)))])) hw upd_at)
        · try simp (disch := omega) only [nI_b2, Decidable.not_not, nI_ltI, nI_leI, nI_eq, ge_iff_le, gt_iff_lt, ne_eq, Nat.not_lt, Nat.not_le] at c_145
          refine w_iconst (v := nI 1) dX8_told_148 (by decide) ?_
          refine w_goto (tgt := 153) dX8_told_149 (by decide) ?_
          refine w_icmp_ne (tgt := 160) dX8_told_153 (by decide) (fun c_153 => ?_) (fun c_153 => ?_)
          · try simp (disch := omega) only [nI_b2, Decidable.not_not, nI_ltI, nI_leI, nI_eq, ge_iff_le, gt_iff_lt, ne_eq, Nat.not_lt, Nat.not_le] at c_153
            refine w_iconst (v := nI 0) dX8_told_160 (by decide) ?_
            refine w_zastore dX8_told_161 (by first | assumption | exact gs_at | (rw [gs_ne (by omega)]; (first | assumption | exact gs_at | (rw [gs_ne (by omega)]; (first | assumption | exact gs_at | (rw [gs_ne (by omega)]; (first | assumption | exact gs_at | (rw [gs_ne (by omega)]; (first | assumption | exact gs_at))))))))) (by first | assumption | exact vp_in_nI (by omega) (by omega) | exact vp_in_nI (by assumption) (by omega)) ?_
            rw [nI_clamp (by omega)]
            refine w_iinc_5 dX8_told_162 (nI_2 _) rfl ?_
            refine w_goto (tgt := 101) dX8_told_165 (by decide) ?_
            rw [gs_gs]
            first
              | (have hgo : ftP w (trT f (j + 1)) := hfs.mpr ⟨hft, by rcases hu2 with ⟨h1, h2⟩ | ⟨h1, h2⟩; (exact ⟨fun _ => by omega, fun _ => h2⟩); (exact ⟨fun h => absurd h h2, fun h => by omega⟩)⟩; have h9 := ih (j + 1) (upd a w (nI 1)) (by omega) (by omega) (fun v hv => by rw [upd_ne hv]; exact ha v hv) upd_at hgo; rw [Nat.mul_add] at h9; exact h9)
              | (have hno : ¬ ftP w (trT f (j + 1)) := (fun h => by have h3 := (hfs.mp h).2; rcases hu2 with ⟨h1, h2⟩ | ⟨h1, h2⟩; (have := h3.mp h2; omega); (exact h2 (h3.mpr (by omega)))); exact ml_td3 hV hT5 hn (fun i => kk (upd a w (nI 0)) i (fun v hv => by rw [upd_ne hv]; exact ha v hv) (by rw [upd_at, b2, if_neg (fun h => hno (ft_mono (y := f) (m := j + 1) hw (n / 2 - (j + 1)) (fun i hi => (hf i (by omega)).1) (by rw [show j + 1 + (n / 2 - (j + 1)) = n / 2 by omega]; exact h)))])) hw upd_at)
          · try simp (disch := omega) only [nI_b2, Decidable.not_not, nI_ltI, nI_leI, nI_eq, ge_iff_le, gt_iff_lt, ne_eq, Nat.not_lt, Nat.not_le] at c_153
            refine w_iconst (v := nI 1) dX8_told_156 (by decide) ?_
            refine w_goto (tgt := 161) dX8_told_157 (by decide) ?_
            refine w_zastore dX8_told_161 (by first | assumption | exact gs_at | (rw [gs_ne (by omega)]; (first | assumption | exact gs_at | (rw [gs_ne (by omega)]; (first | assumption | exact gs_at | (rw [gs_ne (by omega)]; (first | assumption | exact gs_at | (rw [gs_ne (by omega)]; (first | assumption | exact gs_at))))))))) (by first | assumption | exact vp_in_nI (by omega) (by omega) | exact vp_in_nI (by assumption) (by omega)) ?_
            rw [nI_clamp (by omega)]
            refine w_iinc_5 dX8_told_162 (nI_2 _) rfl ?_
            refine w_goto (tgt := 101) dX8_told_165 (by decide) ?_
            rw [gs_gs]
            first
              | (have hgo : ftP w (trT f (j + 1)) := hfs.mpr ⟨hft, by rcases hu2 with ⟨h1, h2⟩ | ⟨h1, h2⟩; (exact ⟨fun _ => by omega, fun _ => h2⟩); (exact ⟨fun h => absurd h h2, fun h => by omega⟩)⟩; have h9 := ih (j + 1) (upd a w (nI 1)) (by omega) (by omega) (fun v hv => by rw [upd_ne hv]; exact ha v hv) upd_at hgo; rw [Nat.mul_add] at h9; exact h9)
              | (have hno : ¬ ftP w (trT f (j + 1)) := (fun h => by have h3 := (hfs.mp h).2; rcases hu2 with ⟨h1, h2⟩ | ⟨h1, h2⟩; (have := h3.mp h2; omega); (exact h2 (h3.mpr (by omega)))); exact ml_td3 hV hT5 hn (fun i => kk (upd a w (nI 0)) i (fun v hv => by rw [upd_ne hv]; exact ha v hv) (by rw [upd_at, b2, if_neg (fun h => hno (ft_mono (y := f) (m := j + 1) hw (n / 2 - (j + 1)) (fun i hi => (hf i (by omega)).1) (by rw [show j + 1 + (n / 2 - (j + 1)) = n / 2 by omega]; exact h)))])) hw upd_at)
theorem ml_td4 {E : EV} {Q : OC → AH → Prop} {V n : Nat} {th hi ac ba en at_ fa dp io hm_ we sh so : Int32} {G : AH} {f : Nat → Nat} (hV : G.1 V = some (mO V th hi ac (nI 0) ba en at_ fa dp io hm_ we sh so)) (hT5 : G.1 (V + 5) = some (aI 400 (fun i => nI (f i)))) (hn : n ≤ 400) (hn2 : n % 2 = 0) (hf : ∀ j, j < n / 2 → f (2 * j) < 6 ∧ f (2 * j + 1) ≤ 1) (hQ : ∀ a : Nat → Int32, (∀ w, w < 36 → a w = nI (b2 (ftP w (trT f (n / 2))))) → Q (.inl (some (.int (nI (wyN (trT f (n / 2)) 0 36))))) (gs G (V + 8) (aZ 36 a))) : ∀ (k i : Nat) (a : Nat → Int32) (z : Value), 36 - i < k → i ≤ 36 → (∀ w, w < i → a w = nI (b2 (ftP w (trT f (n / 2))))) → Wp E 2 0 0 kX8_told Q (gs G (V + 8) (aZ 36 a)) (0, 0) 83 [.ref V, .int (nI n), .int (nI 1), .int (nI (wyN (trT f (n / 2)) 0 i)), .int (nI i), z] [] := by
  intro k
  induction k with
  | zero => intro i a z h; exact absurd h (by omega)
  | succ k ih =>
    intro i a z hk hi4 ha
    have hV2 : (gs G (V + 8) (aZ 36 a)).1 V = some (mO V th hi ac (nI 0) ba en at_ fa dp io hm_ we sh so) := (gs_ne (by omega)).trans hV
    refine w_iload dX8_told_83 rfl ?_
    refine w_bipush (v := nI 36) dX8_told_85 (by decide) ?_
    refine w_icmp_ge (tgt := 192) dX8_told_87 (by decide) (fun c_87 => ?_) (fun c_87 => ?_)
    · try simp (disch := omega) only [nI_b2, Decidable.not_not, nI_ltI, nI_leI, nI_eq, ge_iff_le, gt_iff_lt, ne_eq, Nat.not_lt, Nat.not_le] at c_87
      refine w_iload_n dX8_told_192 rfl ?_
      refine w_iret dX8_told_193 rfl (Nat.le_of_ble_eq_true rfl) (Nat.le_of_ble_eq_true rfl) ?_
      have e : i = 36 := by omega
      subst e
      exact hQ a ha
    · try simp (disch := omega) only [nI_b2, Decidable.not_not, nI_ltI, nI_leI, nI_eq, ge_iff_le, gt_iff_lt, ne_eq, Nat.not_lt, Nat.not_le] at c_87
      refine w_aload_n dX8_told_90 rfl ?_
      refine w_getf dX8_told_91 fl_X8_35 (by first | assumption | exact gs_at | (rw [gs_ne (by omega)]; (first | assumption | exact gs_at | (rw [gs_ne (by omega)]; (first | assumption | exact gs_at | (rw [gs_ne (by omega)]; (first | assumption | exact gs_at | (rw [gs_ne (by omega)]; (first | assumption | exact gs_at))))))))) rfl ?_
      refine w_iload dX8_told_94 rfl ?_
      refine w_iconst (v := nI 1) dX8_told_96 (by decide) ?_
      refine w_zastore dX8_told_97 (by first | assumption | exact gs_at | (rw [gs_ne (by omega)]; (first | assumption | exact gs_at | (rw [gs_ne (by omega)]; (first | assumption | exact gs_at | (rw [gs_ne (by omega)]; (first | assumption | exact gs_at | (rw [gs_ne (by omega)]; (first | assumption | exact gs_at))))))))) (by first | assumption | exact vp_in_nI (by omega) (by omega) | exact vp_in_nI (by assumption) (by omega)) ?_
      rw [nI_clamp (by omega)]
      refine w_iconst (v := nI 0) dX8_told_98 (by decide) ?_
      refine w_istore_5 dX8_told_99 rfl ?_
      rw [gs_gs]
      refine ml_td2 (a0 := upd a i (nI 1)) hV hT5 hn hn2 hf (by omega) (fun a2 j h1 h2 => ?_) (n / 2 + 1) 0 (upd a i (nI 1)) (by omega) (by omega) (fun v hv => rfl) upd_at (by unfold ftP; simp [trT])
      refine w_iload_n dX8_told_168 rfl ?_
      refine w_aload_n dX8_told_169 rfl ?_
      refine w_getf dX8_told_170 fl_X8_35 (show (gs G (V + 8) (aZ 36 a2)).1 V = _ from (gs_ne (by omega)).trans hV) rfl ?_
      refine w_iload dX8_told_173 rfl ?_
      refine w_zaload dX8_told_175 (by first | assumption | exact gs_at | (rw [gs_ne (by omega)]; (first | assumption | exact gs_at | (rw [gs_ne (by omega)]; (first | assumption | exact gs_at | (rw [gs_ne (by omega)]; (first | assumption | exact gs_at | (rw [gs_ne (by omega)]; (first | assumption | exact gs_at))))))))) (by first | assumption | exact vp_in_nI (by omega) (by omega) | exact vp_in_nI (by assumption) (by omega)) ?_
      rw [nI_clamp (by omega)]
      rw [h2]
      refine w_ifN_eq (tgt := 183) dX8_told_176 (by decide) (fun c_176 => ?_) (fun c_176 => ?_)
      · skip
        refine w_iconst (v := nI 0) dX8_told_183 (by decide) ?_
        first | refine w_iaddN dX8_told_184 ?_ | refine w_iadd dX8_told_184 ?_
        refine w_istore_3 dX8_told_185 rfl ?_
        first | refine w_iinc_4 dX8_told_186 (nI_inc _) rfl ?_ | refine w_iinc_4 dX8_told_186 rfl rfl ?_
        refine w_goto (tgt := 83) dX8_told_189 (by decide) ?_
        have hN := ih (i + 1) a2 (.int (nI j)) (by omega) (by omega) (fun w hw => by by_cases e : w = i; (subst e; exact h2); exact (h1 w e).trans ((upd_ne e).trans (ha w (by omega))))
        rw [wyN] at hN
        rw [nI_b2] at c_176
        first
          | (rw [if_pos ⟨Decidable.not_not.mp c_176, Nat.and_zero _⟩] at hN; exact hN)
          | (rw [if_neg (fun h => c_176 h.1)] at hN; exact hN)
      · skip
        refine w_iconst (v := nI 1) dX8_told_179 (by decide) ?_
        refine w_goto (tgt := 184) dX8_told_180 (by decide) ?_
        first | refine w_iaddN dX8_told_184 ?_ | refine w_iadd dX8_told_184 ?_
        refine w_istore_3 dX8_told_185 rfl ?_
        first | refine w_iinc_4 dX8_told_186 (nI_inc _) rfl ?_ | refine w_iinc_4 dX8_told_186 rfl rfl ?_
        refine w_goto (tgt := 83) dX8_told_189 (by decide) ?_
        have hN := ih (i + 1) a2 (.int (nI j)) (by omega) (by omega) (fun w hw => by by_cases e : w = i; (subst e; exact h2); exact (h1 w e).trans ((upd_ne e).trans (ha w (by omega))))
        rw [wyN] at hN
        rw [nI_b2] at c_176
        first
          | (rw [if_pos ⟨Decidable.not_not.mp c_176, Nat.and_zero _⟩] at hN; exact hN)
          | (rw [if_neg (fun h => c_176 h.1)] at hN; exact hN)
theorem m_told {E : EV} {V n : Nat} {th hi ac ba en at_ fa dp io hm_ we sh so : Int32} {G : AH} {f : Nat → Nat} (hV : G.1 V = some (mO V th hi ac (nI n) ba en at_ fa dp io hm_ we sh so)) (hT5 : G.1 (V + 5) = some (aI 400 (fun i => nI (f i)))) (hn : n ≤ 400) (hf : ∀ i, f i < 256) (ha8 : ∃ a : Nat → Int32, G.1 (V + 8) = some (aZ 36 a)) : Ci E 2 kX8_told [.ref V] G (fun r G1 => ((¬ trOk f n → r = -1) ∧ (trOk f n → r = nI (wyN (trT f (n / 2)) 0 36)) ∧ ∃ a : Nat → Int32, G1 = gs (gs G (V + 8) (aZ 36 a)) V (mO V th hi ac (nI 0) ba en at_ fa dp io hm_ we sh so) ∧ (trOk f n → ∀ w, w < 36 → a w = nI (b2 (ftP w (trT f (n / 2))))))) := by
  obtain ⟨a0, ha0⟩ := ha8
  have hbad : ¬ trOk f n → ∀ r : Int32, r = -1 → ((¬ trOk f n → r = -1) ∧ (trOk f n → r = nI (wyN (trT f (n / 2)) 0 36)) ∧ ∃ a : Nat → Int32, (gs G V (mO V th hi ac (nI 0) ba en at_ fa dp io hm_ we sh so)) = gs (gs G (V + 8) (aZ 36 a)) V (mO V th hi ac (nI 0) ba en at_ fa dp io hm_ we sh so) ∧ (trOk f n → ∀ w, w < 36 → a w = nI (b2 (ftP w (trT f (n / 2)))))) := fun h r e => ⟨fun _ => e, fun h2 => absurd h2 h, a0, by rw [gs_id ha0], fun h2 => absurd h2 h⟩
  have hV1 : (gs G V (mO V th hi ac (nI 0) ba en at_ fa dp io hm_ we sh so)).1 V = some (mO V th hi ac (nI 0) ba en at_ fa dp io hm_ we sh so) := gs_at
  have hT1 : (gs G V (mO V th hi ac (nI 0) ba en at_ fa dp io hm_ we sh so)).1 (V + 5) = some (aI 400 (fun i => nI (f i))) := (gs_ne (by omega)).trans hT5
  refine Ct.intro rfl (by decide) [.ref V, .float 0, .float 0, .float 0, .float 0, .float 0] (by simp [Value.category]) (Nat.le_of_ble_eq_true rfl) rfl ?_
  refine w_aload_n dX8_told_0 rfl ?_
  refine w_getf dX8_told_1 fl_X8_50 (by first | assumption | exact gs_at | (rw [gs_ne (by omega)]; (first | assumption | exact gs_at | (rw [gs_ne (by omega)]; (first | assumption | exact gs_at | (rw [gs_ne (by omega)]; (first | assumption | exact gs_at | (rw [gs_ne (by omega)]; (first | assumption | exact gs_at))))))))) rfl ?_
  refine w_istore_1 dX8_told_4 rfl ?_
  refine w_aload_n dX8_told_5 rfl ?_
  refine w_iconst (v := nI 0) dX8_told_6 (by decide) ?_
  refine w_putf dX8_told_7 fl_X8_50 (by first | assumption | exact gs_at | (rw [gs_ne (by omega)]; (first | assumption | exact gs_at | (rw [gs_ne (by omega)]; (first | assumption | exact gs_at | (rw [gs_ne (by omega)]; (first | assumption | exact gs_at | (rw [gs_ne (by omega)]; (first | assumption | exact gs_at))))))))) (by simp) rfl rfl ?_
  refine w_iload_n dX8_told_10 rfl ?_
  refine w_iconst (v := nI 2) dX8_told_11 (by decide) ?_
  first | refine w_iremN (by omega) (by omega) (by omega) dX8_told_12 ?_ | refine w_irem dX8_told_12 (by decide) ?_
  refine w_ifN_ne (tgt := 26) dX8_told_13 (by decide) (fun c_13 => ?_) (fun c_13 => ?_)
  · try simp (disch := omega) only [nI_b2, Decidable.not_not, nI_ltI, nI_leI, nI_eq, ge_iff_le, gt_iff_lt, ne_eq, Nat.not_lt, Nat.not_le] at c_13
    refine w_iconst (v := nI 0) dX8_told_26 (by decide) ?_
    refine w_istore_2 dX8_told_27 rfl ?_
    refine w_iconst (v := nI 0) dX8_told_28 (by decide) ?_
    refine w_istore_3 dX8_told_29 rfl ?_
    refine ml_td0 ?_
    refine w_iload_n dX8_told_72 rfl ?_
    refine w_ifN_ne (tgt := 78) dX8_told_73 (by decide) (fun c_73 => absurd rfl c_73) (fun c_73 => ?_)
    refine w_iconst (v := (-1)) dX8_told_76 (by decide) ?_
    refine w_iret dX8_told_77 rfl (Nat.le_of_ble_eq_true rfl) (Nat.le_of_ble_eq_true rfl) ?_
    exact ⟨_, rfl, hbad (fun h => by have h1 := h.2.1; omega) _ rfl⟩
  · try simp (disch := omega) only [nI_b2, Decidable.not_not, nI_ltI, nI_leI, nI_eq, ge_iff_le, gt_iff_lt, ne_eq, Nat.not_lt, Nat.not_le] at c_13
    refine w_iload_n dX8_told_16 rfl ?_
    refine w_bipush (v := nI 40) dX8_told_17 (by decide) ?_
    refine w_icmp_gt (tgt := 26) dX8_told_19 (by decide) (fun c_19 => ?_) (fun c_19 => ?_)
    · try simp (disch := omega) only [nI_b2, Decidable.not_not, nI_ltI, nI_leI, nI_eq, ge_iff_le, gt_iff_lt, ne_eq, Nat.not_lt, Nat.not_le] at c_19
      refine w_iconst (v := nI 0) dX8_told_26 (by decide) ?_
      refine w_istore_2 dX8_told_27 rfl ?_
      refine w_iconst (v := nI 0) dX8_told_28 (by decide) ?_
      refine w_istore_3 dX8_told_29 rfl ?_
      refine ml_td0 ?_
      refine w_iload_n dX8_told_72 rfl ?_
      refine w_ifN_ne (tgt := 78) dX8_told_73 (by decide) (fun c_73 => absurd rfl c_73) (fun c_73 => ?_)
      refine w_iconst (v := (-1)) dX8_told_76 (by decide) ?_
      refine w_iret dX8_told_77 rfl (Nat.le_of_ble_eq_true rfl) (Nat.le_of_ble_eq_true rfl) ?_
      exact ⟨_, rfl, hbad (fun h => by have h1 := h.1; omega) _ rfl⟩
    · try simp (disch := omega) only [nI_b2, Decidable.not_not, nI_ltI, nI_leI, nI_eq, ge_iff_le, gt_iff_lt, ne_eq, Nat.not_lt, Nat.not_le] at c_19
      refine w_iconst (v := nI 1) dX8_told_22 (by decide) ?_
      refine w_goto (tgt := 27) dX8_told_23 (by decide) ?_
      refine w_istore_2 dX8_told_27 rfl ?_
      refine w_iconst (v := nI 0) dX8_told_28 (by decide) ?_
      refine w_istore_3 dX8_told_29 rfl ?_
      refine ml_td1 hV1 hT1 hn hf (fun hall => ?_) (fun hall i => ?_) (n + 1) 0 (by omega) (by omega) (fun j hj => absurd hj (by omega))
      · have hok : trOk f n := ⟨by omega, by omega, fun j hj => ⟨by have h := hall (2 * j) (by omega); rw [if_pos (by omega)] at h; exact h, by have h := hall (2 * j + 1) (by omega); rw [if_neg (by omega)] at h; omega⟩⟩
        refine w_iload_n dX8_told_72 rfl ?_
        refine w_ifN_ne (tgt := 78) dX8_told_73 (by decide) (fun c_73 => ?_) (fun c_73 => absurd c_73 (by decide))
        refine w_iconst (v := nI 0) dX8_told_78 (by decide) ?_
        refine w_istore_3 dX8_told_79 rfl ?_
        refine w_iconst (v := nI 0) dX8_told_80 (by decide) ?_
        refine w_istore_4 dX8_told_81 rfl ?_
        have h := ml_td4 (E := E) (G := (gs G V (mO V th hi ac (nI 0) ba en at_ fa dp io hm_ we sh so))) (Q := fun o G1 => ∃ r : Int32, o = .inl (some (.int r)) ∧ ((¬ trOk f n → r = -1) ∧ (trOk f n → r = nI (wyN (trT f (n / 2)) 0 36)) ∧ ∃ a : Nat → Int32, G1 = gs (gs G (V + 8) (aZ 36 a)) V (mO V th hi ac (nI 0) ba en at_ fa dp io hm_ we sh so) ∧ (trOk f n → ∀ w, w < 36 → a w = nI (b2 (ftP w (trT f (n / 2))))))) hV1 hT1 hn hok.2.1 hok.2.2 (fun a h1 => ⟨_, rfl, fun h2 => absurd hok h2, fun _ => rfl, a, by rw [gs_comm (a := V) (b := V + 8) (by omega)], fun _ => h1⟩) 37 0 a0 (.float 0) (by omega) (by omega) (fun w hw => absurd hw (by omega))
        rw [gs_id ((gs_ne (by omega)).trans ha0)] at h
        exact h
      · refine w_iload_n dX8_told_72 rfl ?_
        refine w_ifN_ne (tgt := 78) dX8_told_73 (by decide) (fun c_73 => absurd rfl c_73) (fun c_73 => ?_)
        refine w_iconst (v := (-1)) dX8_told_76 (by decide) ?_
        refine w_iret dX8_told_77 rfl (Nat.le_of_ble_eq_true rfl) (Nat.le_of_ble_eq_true rfl) ?_
        exact ⟨_, rfl, hbad (fun h => hall (fun j hj => by by_cases e : j % 2 = 0; (rw [if_pos e]; have h3 := (h.2.2 (j / 2) (by omega)).1; rw [show 2 * (j / 2) = j by omega] at h3; exact h3); (rw [if_neg e]; have h3 := (h.2.2 (j / 2) (by omega)).2; rw [show 2 * (j / 2) + 1 = j by omega] at h3; omega))) _ rfl⟩
