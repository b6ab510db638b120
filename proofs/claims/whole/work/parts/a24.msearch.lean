/-! the model: in which order to look -/
def lsA (L : Nat → Nat) : Nat → Int32 := fun i => nI (L i)
theorem lsA_at (L : Nat → Nat) (i : Nat) : lsA L i = nI (L i) := rfl
theorem lsA_up (L : Nat → Nat) (D c : Nat) : upd (lsA L) D (nI c) = lsA (updF L D c) := upd_F L D c
theorem updF_at (L : Nat → Nat) (D c : Nat) : updF L D c D = c := if_pos rfl
theorem updF_ne {L : Nat → Nat} {D c i : Nat} (h : i ≠ D) : updF L D c i = L i := if_neg h
theorem updF_2 (L : Nat → Nat) (D c e : Nat) : updF (updF L D c) D e = updF L D e := by
  funext i
  unfold updF
  split <;> rfl
theorem by_cg {T : ST} {L : Nat → Nat} {D r c : Nat} (hD : D < 64) (hr : r < 6) (h : ¬ inD D r) : byV T (updF L D c) D r = byV T L D r := by
  unfold byV
  rw [updF_ne (by have := or_gt hD hr h; omega)]
theorem ls_any (l : Nat → Int32) : ∃ L, l = lsA L := ⟨fun i => nOf (l i), funext fun i => (nI_nOf (l i)).symm⟩
theorem cf_s (T : ST) (s m : Nat) : sumN (m + 1) (fun r => if inD s r then lcN T r else 0) = sumN m (fun r => if inD s r then lcN T r else 0) + (if inD s m then lcN T m else 0) := rfl
theorem ml_costsOf {E : EV} {Q : OC → AH → Prop} {V : Nat} {th hi ac tp ba en at_ fa dp io hm_ we sh so : Int32} {mm : Nat → Int32} {T : ST} {sd : Int32} {G : AH} {s : Nat} (hV : G.1 V = some (mO V th hi ac tp ba en at_ fa dp io hm_ we sh so)) (hm : G.1 (V + 1) = some (aI 750 mm)) (hR : MoR mm T sd) (hB : Bd T) (hs : s < 64) (hQ : Q (.inl (some (.int (nI (cfN T s))))) G) : ∀ (k i : Nat), 6 - i < k → i ≤ 6 → Wp E 2 0 0 kX8_costsOf Q G (0, 0) 4 [.ref V, .int (nI s), .int (nI (sumN i (fun r => if inD s r then lcN T r else 0))), .int (nI i)] [] := by
  obtain ⟨r0, r3, r4, r5, r6, r7, r9, r11, r12, r14, r20, r26, rL⟩ := id hR
  obtain ⟨b0, b1, b2_, b3, b4, b5, b6, b7, b8, b9, b10, b11, b12, b13, b14, b15, b16, b17, b18, b19⟩ := id hB
  intro k
  induction k with
  | zero => intro i h; exact absurd h (by omega)
  | succ k ih =>
    intro i hk hi
    refine w_iload_n dX8_costsOf_4 rfl ?_
    refine w_bipush (v := nI 6) dX8_costsOf_5 (by decide) ?_
    refine w_icmp_ge (tgt := 42) dX8_costsOf_7 (by decide) (fun c_7 => ?_) (fun c_7 => ?_)
    · try simp (disch := omega) only [nI_b2, Decidable.not_not, nI_ltI, nI_leI, nI_eq, ge_iff_le, gt_iff_lt, ne_eq, Nat.not_lt, Nat.not_le] at c_7
      refine w_iload_n dX8_costsOf_42 rfl ?_
      refine w_iret dX8_costsOf_43 rfl (Nat.le_of_ble_eq_true rfl) (Nat.le_of_ble_eq_true rfl) ?_
      have e : i = 6 := by omega
      subst e
      exact hQ
    · try simp (disch := omega) only [nI_b2, Decidable.not_not, nI_ltI, nI_leI, nI_eq, ge_iff_le, gt_iff_lt, ne_eq, Nat.not_lt, Nat.not_le] at c_7
      refine w_iload_n dX8_costsOf_10 rfl ?_
      refine w_iload_n dX8_costsOf_11 rfl ?_
      refine w_iload_n dX8_costsOf_12 rfl ?_
      refine wS2u dX8_costsOf_13 lk_X8_240 rfl (m_isOf (s := s) (k := i) (by omega) (by omega)) (Nat.le_of_ble_eq_true rfl) (Nat.le_of_ble_eq_true rfl) (Nat.le_of_ble_eq_true rfl) (Nat.le_of_ble_eq_true rfl) ?_
      refine w_ifN_eq (tgt := 33) dX8_costsOf_16 (by decide) (fun c_16 => ?_) (fun c_16 => ?_)
      · try simp (disch := omega) only [nI_b2, Decidable.not_not, nI_ltI, nI_leI, nI_eq, ge_iff_le, gt_iff_lt, ne_eq, Nat.not_lt, Nat.not_le] at c_16
        refine w_iconst (v := nI 0) dX8_costsOf_33 (by decide) ?_
        first | refine w_iaddN dX8_costsOf_34 ?_ | refine w_iadd dX8_costsOf_34 ?_
        refine w_istore_2 dX8_costsOf_35 rfl ?_
        first | refine w_iinc_3 dX8_costsOf_36 (nI_inc _) rfl ?_ | refine w_iinc_3 dX8_costsOf_36 rfl rfl ?_
        refine w_goto (tgt := 4) dX8_costsOf_39 (by decide) ?_
        have hN := ih (i + 1) (by omega) (by omega)
        rw [cf_s] at hN
        first
          | (rw [if_pos c_16] at hN; exact hN)
          | (rw [if_neg c_16] at hN; exact hN)
      · try simp (disch := omega) only [nI_b2, Decidable.not_not, nI_ltI, nI_leI, nI_eq, ge_iff_le, gt_iff_lt, ne_eq, Nat.not_lt, Nat.not_le] at c_16
        refine w_aload_n dX8_costsOf_19 rfl ?_
        refine w_getf dX8_costsOf_20 fl_X8_7 (by first | assumption | exact gs_at | (rw [gs_ne (by omega)]; (first | assumption | exact gs_at | (rw [gs_ne (by omega)]; (first | assumption | exact gs_at | (rw [gs_ne (by omega)]; (first | assumption | exact gs_at | (rw [gs_ne (by omega)]; (first | assumption | exact gs_at))))))))) rfl ?_
        refine w_bipush (v := nI 14) dX8_costsOf_23 (by decide) ?_
        refine w_iload_n dX8_costsOf_25 rfl ?_
        first | refine w_iaddN dX8_costsOf_26 ?_ | refine w_iadd dX8_costsOf_26 ?_
        refine w_iaload dX8_costsOf_27 (by first | assumption | exact gs_at | (rw [gs_ne (by omega)]; (first | assumption | exact gs_at | (rw [gs_ne (by omega)]; (first | assumption | exact gs_at | (rw [gs_ne (by omega)]; (first | assumption | exact gs_at | (rw [gs_ne (by omega)]; (first | assumption | exact gs_at))))))))) (by first | assumption | exact vp_in_nI (by omega) (by omega) | exact vp_in_nI (by assumption) (by omega)) ?_
        rw [nI_clamp (by omega)]
        rw [r14 i (by omega)]
        refine w_iconst (v := nI 1) dX8_costsOf_28 (by decide) ?_
        first | refine w_iaddN dX8_costsOf_29 ?_ | refine w_iadd dX8_costsOf_29 ?_
        refine w_goto (tgt := 34) dX8_costsOf_30 (by decide) ?_
        first | refine w_iaddN dX8_costsOf_34 ?_ | refine w_iadd dX8_costsOf_34 ?_
        refine w_istore_2 dX8_costsOf_35 rfl ?_
        first | refine w_iinc_3 dX8_costsOf_36 (nI_inc _) rfl ?_ | refine w_iinc_3 dX8_costsOf_36 rfl rfl ?_
        refine w_goto (tgt := 4) dX8_costsOf_39 (by decide) ?_
        have hN := ih (i + 1) (by omega) (by omega)
        rw [cf_s] at hN
        first
          | (rw [if_pos c_16] at hN; exact hN)
          | (rw [if_neg c_16] at hN; exact hN)
theorem m_costsOf {E : EV} {V : Nat} {th hi ac tp ba en at_ fa dp io hm_ we sh so : Int32} {mm : Nat → Int32} {T : ST} {sd : Int32} {G : AH} {s : Nat} (hV : G.1 V = some (mO V th hi ac tp ba en at_ fa dp io hm_ we sh so)) (hm : G.1 (V + 1) = some (aI 750 mm)) (hR : MoR mm T sd) (hB : Bd T) (hs : s < 64) : Cu E 2 kX8_costsOf [.ref V, .int (nI s)] G (.int (nI (cfN T s))) G := by
  obtain ⟨r0, r3, r4, r5, r6, r7, r9, r11, r12, r14, r20, r26, rL⟩ := id hR
  obtain ⟨b0, b1, b2_, b3, b4, b5, b6, b7, b8, b9, b10, b11, b12, b13, b14, b15, b16, b17, b18, b19⟩ := id hB
  refine Ct.intro rfl (by decide) [.ref V, .int (nI s), .float 0, .float 0] (by simp [Value.category]) (Nat.le_of_ble_eq_true rfl) rfl ?_
  refine w_iconst (v := nI 0) dX8_costsOf_0 (by decide) ?_
  refine w_istore_2 dX8_costsOf_1 rfl ?_
  refine w_iconst (v := nI 0) dX8_costsOf_2 (by decide) ?_
  refine w_istore_3 dX8_costsOf_3 rfl ?_
  exact ml_costsOf hV hm hR hB hs ⟨rfl, rfl⟩ 7 0 (by omega) (by omega)
theorem m_by {E : EV} {V : Nat} {th hi ac tp ba en at_ fa dp io hm_ we sh so : Int32} {mm : Nat → Int32} {T : ST} {sd : Int32} {G : AH} {D r : Nat} {L : Nat → Nat} (hV : G.1 V = some (mO V th hi ac tp ba en at_ fa dp io hm_ we sh so)) (hm : G.1 (V + 1) = some (aI 750 mm)) (hR : MoR mm T sd) (hB : Bd T) (hL : G.1 (V + 7) = some (aI 64 (lsA L))) (hD : D < 64) (hr : r < 6) : Cu E 3 kX8_by [.ref V, .int (nI D), .int (nI r)] G (.int (nI (byV T L D r))) G := by
  obtain ⟨r0, r3, r4, r5, r6, r7, r9, r11, r12, r14, r20, r26, rL⟩ := id hR
  obtain ⟨b0, b1, b2_, b3, b4, b5, b6, b7, b8, b9, b10, b11, b12, b13, b14, b15, b16, b17, b18, b19⟩ := id hB
  have hor := or_lt hD hr
  have hb9 := bitN_12 (fun j => T 1 j = r) b0
  have hp2 := p2_lt (show r < 31 by omega)
  refine Ct.intro rfl (by decide) [.ref V, .int (nI D), .int (nI r)] (by simp [Value.category]) (Nat.le_of_ble_eq_true rfl) rfl ?_
  refine w_aload_n dX8_by_0 rfl ?_
  refine w_iload_n dX8_by_1 rfl ?_
  refine w_iconst (v := nI 1) dX8_by_2 (by decide) ?_
  refine wV2u dX8_by_3 lk_X8_283 rfl (by first | assumption | exact gs_at | (rw [gs_ne (by omega)]; (first | assumption | exact gs_at | (rw [gs_ne (by omega)]; (first | assumption | exact gs_at | (rw [gs_ne (by omega)]; (first | assumption | exact gs_at | (rw [gs_ne (by omega)]; (first | assumption | exact gs_at))))))))) rfl rfl (m_itemsOf (w := 1) (r := r) hV hm hR hB (by decide) (fun j => by have := b2_ j; omega) (by omega)) (Nat.le_of_ble_eq_true rfl) (Nat.le_of_ble_eq_true rfl) (Nat.le_of_ble_eq_true rfl) (Nat.le_of_ble_eq_true rfl) ?_
  refine wS1u dX8_by_6 lk_X8_262 rfl (m_bits hb9) (Nat.le_of_ble_eq_true rfl) (Nat.le_of_ble_eq_true rfl) (Nat.le_of_ble_eq_true rfl) (Nat.le_of_ble_eq_true rfl) ?_
  refine w_iconst (v := nI 1) dX8_by_9 (by decide) ?_
  first | refine w_iaddN dX8_by_10 ?_ | refine w_iadd dX8_by_10 ?_
  refine w_aload_n dX8_by_11 rfl ?_
  refine w_iload_n dX8_by_12 rfl ?_
  refine w_iconst (v := nI 1) dX8_by_13 (by decide) ?_
  refine w_iload_n dX8_by_14 rfl ?_
  refine w_ishlN (by omega) hp2 dX8_by_15 ?_
  first | refine w_iorN dX8_by_16 ?_ | refine w_ior dX8_by_16 ?_
  refine wV1u dX8_by_17 lk_X8_308 rfl (by first | assumption | exact gs_at | (rw [gs_ne (by omega)]; (first | assumption | exact gs_at | (rw [gs_ne (by omega)]; (first | assumption | exact gs_at | (rw [gs_ne (by omega)]; (first | assumption | exact gs_at | (rw [gs_ne (by omega)]; (first | assumption | exact gs_at))))))))) rfl rfl (m_costsOf hV hm hR hB hor) (Nat.le_of_ble_eq_true rfl) (Nat.le_of_ble_eq_true rfl) (Nat.le_of_ble_eq_true rfl) (Nat.le_of_ble_eq_true rfl) ?_
  first | refine w_imulN dX8_by_20 ?_ | refine w_imul dX8_by_20 ?_
  refine w_aload_n dX8_by_21 rfl ?_
  refine w_getf dX8_by_22 fl_X8_32 (by first | assumption | exact gs_at | (rw [gs_ne (by omega)]; (first | assumption | exact gs_at | (rw [gs_ne (by omega)]; (first | assumption | exact gs_at | (rw [gs_ne (by omega)]; (first | assumption | exact gs_at | (rw [gs_ne (by omega)]; (first | assumption | exact gs_at))))))))) rfl ?_
  refine w_iload_n dX8_by_25 rfl ?_
  refine w_iconst (v := nI 1) dX8_by_26 (by decide) ?_
  refine w_iload_n dX8_by_27 rfl ?_
  refine w_ishlN (by omega) hp2 dX8_by_28 ?_
  first | refine w_iorN dX8_by_29 ?_ | refine w_ior dX8_by_29 ?_
  refine w_iaload dX8_by_30 (by first | assumption | exact gs_at | (rw [gs_ne (by omega)]; (first | assumption | exact gs_at | (rw [gs_ne (by omega)]; (first | assumption | exact gs_at | (rw [gs_ne (by omega)]; (first | assumption | exact gs_at | (rw [gs_ne (by omega)]; (first | assumption | exact gs_at))))))))) (by first | assumption | exact vp_in_nI (by omega) (by omega) | exact vp_in_nI (by assumption) (by omega)) ?_
  rw [nI_clamp (by omega)]
  rw [lsA_at]
  first | refine w_iaddN dX8_by_31 ?_ | refine w_iadd dX8_by_31 ?_
  refine w_iret dX8_by_32 rfl (Nat.le_of_ble_eq_true rfl) (Nat.le_of_ble_eq_true rfl) ?_
  exact ⟨rfl, rfl⟩
theorem ml_sr26 {E : EV} {Q : OC → AH → Prop} {V : Nat} {th hi ac tp ba en at_ fa dp io hm_ we sh so : Int32} {mm : Nat → Int32} {T : ST} {sd : Int32} {G : AH} {D : Nat} {L : Nat → Nat} (hV : G.1 V = some (mO V th hi ac tp ba en at_ fa dp io hm_ we sh so)) (hm : G.1 (V + 1) = some (aI 750 mm)) (hR : MoR mm T sd) (hB : Bd T) (hD : D < 63) (hLs : LsOK T L (D + 1)) (kk : ∀ z : Value, Wp E 4 0 0 kX8_searches Q (gs G (V + 7) (aI 64 (lsA (updF L D (mnV T L D 6))))) (0, 0) 67 [.ref V, .int (nI D), z] []) : ∀ (k r : Nat), 6 - r < k → r ≤ 6 → Wp E 4 0 0 kX8_searches Q (gs G (V + 7) (aI 64 (lsA (updF L D (mnV T L D r))))) (0, 0) 26 [.ref V, .int (nI D), .int (nI r)] [] := by
  obtain ⟨r0, r3, r4, r5, r6, r7, r9, r11, r12, r14, r20, r26, rL⟩ := id hR
  obtain ⟨b0, b1, b2_, b3, b4, b5, b6, b7, b8, b9, b10, b11, b12, b13, b14, b15, b16, b17, b18, b19⟩ := id hB
  intro k
  induction k with
  | zero => intro r h; exact absurd h (by omega)
  | succ k ih =>
    intro r hk9 hr9
    have hV9 : (gs G (V + 7) (aI 64 (lsA (updF L D (mnV T L D r))))).1 V = some (mO V th hi ac tp ba en at_ fa dp io hm_ we sh so) := (gs_ne (by omega)).trans hV
    have hm9 : (gs G (V + 7) (aI 64 (lsA (updF L D (mnV T L D r))))).1 (V + 1) = some (aI 750 mm) := (gs_ne (by omega)).trans hm
    have hmn := (mn_le T L D r).1
    refine w_iload_n dX8_searches_26 rfl ?_
    refine w_bipush (v := nI 6) dX8_searches_27 (by decide) ?_
    refine w_icmp_ge (tgt := 67) dX8_searches_29 (by decide) (fun c_29 => ?_) (fun c_29 => ?_)
    · try simp (disch := omega) only [nI_b2, Decidable.not_not, nI_ltI, nI_leI, nI_eq, ge_iff_le, gt_iff_lt, ne_eq, Nat.not_lt, Nat.not_le] at c_29
      have e : r = 6 := by omega
      subst e
      exact kk _
    · try simp (disch := omega) only [nI_b2, Decidable.not_not, nI_ltI, nI_leI, nI_eq, ge_iff_le, gt_iff_lt, ne_eq, Nat.not_lt, Nat.not_le] at c_29
      refine w_iload_n dX8_searches_32 rfl ?_
      refine w_iload_n dX8_searches_33 rfl ?_
      refine wS2u dX8_searches_34 lk_X8_240 rfl (m_isOf (s := D) (k := r) (by omega) (by omega)) (Nat.le_of_ble_eq_true rfl) (Nat.le_of_ble_eq_true rfl) (Nat.le_of_ble_eq_true rfl) (Nat.le_of_ble_eq_true rfl) ?_
      refine w_ifN_ne (tgt := 61) dX8_searches_37 (by decide) (fun c_37 => ?_) (fun c_37 => ?_)
      · try simp (disch := omega) only [nI_b2, Decidable.not_not, nI_ltI, nI_leI, nI_eq, ge_iff_le, gt_iff_lt, ne_eq, Nat.not_lt, Nat.not_le] at c_37
        first | refine w_iinc_2 dX8_searches_61 (nI_inc _) rfl ?_ | refine w_iinc_2 dX8_searches_61 rfl rfl ?_
        refine w_goto (tgt := 26) dX8_searches_64 (by decide) ?_
        have hN := ih (r + 1) (by omega) (by omega)
        rw [mnV, if_pos c_37] at hN
        exact hN
      · try simp (disch := omega) only [nI_b2, Decidable.not_not, nI_ltI, nI_leI, nI_eq, ge_iff_le, gt_iff_lt, ne_eq, Nat.not_lt, Nat.not_le] at c_37
        refine w_aload_n dX8_searches_40 rfl ?_
        refine w_getf dX8_searches_41 fl_X8_32 (by first | assumption | exact gs_at | (rw [gs_ne (by omega)]; (first | assumption | exact gs_at | (rw [gs_ne (by omega)]; (first | assumption | exact gs_at | (rw [gs_ne (by omega)]; (first | assumption | exact gs_at | (rw [gs_ne (by omega)]; (first | assumption | exact gs_at))))))))) rfl ?_
        refine w_iload_n dX8_searches_44 rfl ?_
        refine w_aload_n dX8_searches_45 rfl ?_
        refine w_getf dX8_searches_46 fl_X8_32 (by first | assumption | exact gs_at | (rw [gs_ne (by omega)]; (first | assumption | exact gs_at | (rw [gs_ne (by omega)]; (first | assumption | exact gs_at | (rw [gs_ne (by omega)]; (first | assumption | exact gs_at | (rw [gs_ne (by omega)]; (first | assumption | exact gs_at))))))))) rfl ?_
        refine w_iload_n dX8_searches_49 rfl ?_
        refine w_iaload dX8_searches_50 (by first | assumption | exact gs_at | (rw [gs_ne (by omega)]; (first | assumption | exact gs_at | (rw [gs_ne (by omega)]; (first | assumption | exact gs_at | (rw [gs_ne (by omega)]; (first | assumption | exact gs_at | (rw [gs_ne (by omega)]; (first | assumption | exact gs_at))))))))) (by first | assumption | exact vp_in_nI (by omega) (by omega) | exact vp_in_nI (by assumption) (by omega)) ?_
        rw [nI_clamp (by omega)]
        rw [lsA_at, updF_at]
        refine w_aload_n dX8_searches_51 rfl ?_
        refine w_iload_n dX8_searches_52 rfl ?_
        refine w_iload_n dX8_searches_53 rfl ?_
        refine wV2u dX8_searches_54 lk_X8_312 rfl (by first | assumption | exact gs_at | (rw [gs_ne (by omega)]; (first | assumption | exact gs_at | (rw [gs_ne (by omega)]; (first | assumption | exact gs_at | (rw [gs_ne (by omega)]; (first | assumption | exact gs_at | (rw [gs_ne (by omega)]; (first | assumption | exact gs_at))))))))) rfl rfl (m_by (D := D) (r := r) hV9 hm9 hR hB gs_at (by omega) (by omega)) (Nat.le_of_ble_eq_true rfl) (Nat.le_of_ble_eq_true rfl) (Nat.le_of_ble_eq_true rfl) (Nat.le_of_ble_eq_true rfl) ?_
        rw [by_cg (by omega) (by omega) c_37]
        have hby := by_le hB hLs (by omega) (show r < 6 by omega) c_37
        refine wS2u dX8_searches_57 lk_X8_222 rfl (m_lesser (by omega) (by omega)) (Nat.le_of_ble_eq_true rfl) (Nat.le_of_ble_eq_true rfl) (Nat.le_of_ble_eq_true rfl) (Nat.le_of_ble_eq_true rfl) ?_
        refine w_iastore dX8_searches_60 (by first | assumption | exact gs_at | (rw [gs_ne (by omega)]; (first | assumption | exact gs_at | (rw [gs_ne (by omega)]; (first | assumption | exact gs_at | (rw [gs_ne (by omega)]; (first | assumption | exact gs_at | (rw [gs_ne (by omega)]; (first | assumption | exact gs_at))))))))) (by first | assumption | exact vp_in_nI (by omega) (by omega) | exact vp_in_nI (by assumption) (by omega)) ?_
        rw [nI_clamp (by omega)]
        rw [gs_gs, lsA_up, updF_2]
        first | refine w_iinc_2 dX8_searches_61 (nI_inc _) rfl ?_ | refine w_iinc_2 dX8_searches_61 rfl rfl ?_
        refine w_goto (tgt := 26) dX8_searches_64 (by decide) ?_
        have hN := ih (r + 1) (by omega) (by omega)
        rw [mnV, if_neg c_37] at hN
        exact hN
theorem nI_two : (2000000000 : Int32) = nI 2000000000 := rfl
theorem LsOK.dn {T : ST} {L : Nat → Nat} {D : Nat} (h : LsOK T L (D + 1)) (hD : D < 63) : LsOK T (updF L D (mnV T L D 6)) D := by
  have hcg : ∀ i, D < i → updF L D (mnV T L D 6) i = L i := fun i hi => updF_ne (by omega)
  refine ⟨(hcg 63 hD).trans h.1, fun i h1 h2 => ?_⟩
  by_cases hi : i = D
  · subst hi
    rw [updF_at, mn_cg (by omega) hcg 6 (Nat.le_refl 6)]
  · rw [hcg i (by omega), h.2 i (by omega) h2, mn_cg (by omega) (fun j hj => hcg j (by omega)) 6 (Nat.le_refl 6)]
theorem ml_sr11 {E : EV} {Q : OC → AH → Prop} {V : Nat} {th hi ac tp ba en at_ fa dp io hm_ we sh so : Int32} {mm : Nat → Int32} {T : ST} {sd : Int32} {G : AH} (hV : G.1 V = some (mO V th hi ac tp ba en at_ fa dp io hm_ we sh so)) (hm : G.1 (V + 1) = some (aI 750 mm)) (hR : MoR mm T sd) (hB : Bd T) (hQ : ∀ L, LsOK T L 0 → Q (.inl none) (gs G (V + 7) (aI 64 (lsA L)))) : ∀ (D : Nat) (L : Nat → Nat) (z : Value), D < 63 → LsOK T L (D + 1) → Wp E 4 0 0 kX8_searches Q (gs G (V + 7) (aI 64 (lsA L))) (0, 0) 11 [.ref V, .int (nI D), z] [] := by
  obtain ⟨r0, r3, r4, r5, r6, r7, r9, r11, r12, r14, r20, r26, rL⟩ := id hR
  obtain ⟨b0, b1, b2_, b3, b4, b5, b6, b7, b8, b9, b10, b11, b12, b13, b14, b15, b16, b17, b18, b19⟩ := id hB
  have hend : ∀ (L : Nat → Nat) (z : Value), LsOK T L 0 → Wp E 4 0 0 kX8_searches Q (gs G (V + 7) (aI 64 (lsA L))) (0, 0) 11 [.ref V, .int (-1), z] [] := by
    intro L z hLs
    refine w_iload_n dX8_searches_11 rfl ?_
    refine w_ifN_lt (tgt := 73) dX8_searches_12 (by decide) (fun c_12 => ?_) (fun c_12 => ?_)
    · skip
      refine w_vret dX8_searches_73 rfl (Nat.le_of_ble_eq_true rfl) (Nat.le_of_ble_eq_true rfl) ?_
      exact hQ L hLs
    · skip
      exact absurd (by decide) c_12
  have hgo : ∀ (D : Nat) (L : Nat → Nat) (z : Value), D < 63 → LsOK T L (D + 1) → (∀ z, Wp E 4 0 0 kX8_searches Q (gs G (V + 7) (aI 64 (lsA (updF L D (mnV T L D 6))))) (0, 0) 67 [.ref V, .int (nI D), z] []) → Wp E 4 0 0 kX8_searches Q (gs G (V + 7) (aI 64 (lsA L))) (0, 0) 11 [.ref V, .int (nI D), z] [] := by
    intro D L z hD hLs hk
    refine w_iload_n dX8_searches_11 rfl ?_
    refine w_ifN_lt (tgt := 73) dX8_searches_12 (by decide) (fun c_12 => ?_) (fun c_12 => ?_)
    · skip
      exact absurd c_12 (by rw [nI_ltI (by omega) (by omega)]; omega)
    · skip
      refine w_aload_n dX8_searches_15 rfl ?_
      refine w_getf dX8_searches_16 fl_X8_32 (by first | assumption | exact gs_at | (rw [gs_ne (by omega)]; (first | assumption | exact gs_at | (rw [gs_ne (by omega)]; (first | assumption | exact gs_at | (rw [gs_ne (by omega)]; (first | assumption | exact gs_at | (rw [gs_ne (by omega)]; (first | assumption | exact gs_at))))))))) rfl ?_
      refine w_iload_n dX8_searches_19 rfl ?_
      refine w_ldcw (v := 2000000000) dX8_searches_20 u_1648 ?_
      refine w_iastore dX8_searches_23 (by first | assumption | exact gs_at | (rw [gs_ne (by omega)]; (first | assumption | exact gs_at | (rw [gs_ne (by omega)]; (first | assumption | exact gs_at | (rw [gs_ne (by omega)]; (first | assumption | exact gs_at | (rw [gs_ne (by omega)]; (first | assumption | exact gs_at))))))))) (by first | assumption | exact vp_in_nI (by omega) (by omega) | exact vp_in_nI (by assumption) (by omega)) ?_
      rw [nI_clamp (by omega)]
      rw [gs_gs, nI_two, lsA_up]
      refine w_iconst (v := nI 0) dX8_searches_24 (by decide) ?_
      refine w_istore_2 dX8_searches_25 rfl ?_
      exact ml_sr26 (D := D) hV hm hR hB hD hLs hk 7 0 (by omega) (by omega)
  intro D
  induction D with
  | zero =>
    intro L z hD hLs
    refine hgo 0 L z hD hLs (fun z => ?_)
    refine w_iinc_1 dX8_searches_67 rfl rfl ?_
    refine w_goto (tgt := 11) dX8_searches_70 (by decide) ?_
    exact hend _ _ (hLs.dn hD)
  | succ D ih =>
    intro L z hD hLs
    refine hgo (D + 1) L z hD hLs (fun z => ?_)
    refine w_iinc_1 dX8_searches_67 (dec_N _) rfl ?_
    refine w_goto (tgt := 11) dX8_searches_70 (by decide) ?_
    exact ih _ _ (by omega) (hLs.dn hD)
theorem m_searches {E : EV} {V : Nat} {th hi ac tp ba en at_ fa dp io hm_ we sh so : Int32} {mm : Nat → Int32} {T : ST} {sd : Int32} {G : AH} (hV : G.1 V = some (mO V th hi ac tp ba en at_ fa dp io hm_ we sh so)) (hm : G.1 (V + 1) = some (aI 750 mm)) (hR : MoR mm T sd) (hB : Bd T) (h7 : ∃ l : Nat → Int32, G.1 (V + 7) = some (aI 64 l)) : Cd E 4 kX8_searches [.ref V] G (fun G1 => ∃ L, G1 = (gs G (V + 7) (aI 64 (lsA L))) ∧ LsOK T L 0) := by
  obtain ⟨r0, r3, r4, r5, r6, r7, r9, r11, r12, r14, r20, r26, rL⟩ := id hR
  obtain ⟨b0, b1, b2_, b3, b4, b5, b6, b7, b8, b9, b10, b11, b12, b13, b14, b15, b16, b17, b18, b19⟩ := id hB
  obtain ⟨l, h7⟩ := h7
  obtain ⟨L0, rfl⟩ := ls_any l
  refine Ct.intro rfl (by decide) [.ref V, .float 0, .float 0] (by simp [Value.category]) (Nat.le_of_ble_eq_true rfl) rfl ?_
  refine w_aload_n dX8_searches_0 rfl ?_
  refine w_getf dX8_searches_1 fl_X8_32 (by first | assumption | exact gs_at | (rw [gs_ne (by omega)]; (first | assumption | exact gs_at | (rw [gs_ne (by omega)]; (first | assumption | exact gs_at | (rw [gs_ne (by omega)]; (first | assumption | exact gs_at | (rw [gs_ne (by omega)]; (first | assumption | exact gs_at))))))))) rfl ?_
  refine w_bipush (v := nI 63) dX8_searches_4 (by decide) ?_
  refine w_iconst (v := nI 0) dX8_searches_6 (by decide) ?_
  refine w_iastore dX8_searches_7 (by first | assumption | exact gs_at | (rw [gs_ne (by omega)]; (first | assumption | exact gs_at | (rw [gs_ne (by omega)]; (first | assumption | exact gs_at | (rw [gs_ne (by omega)]; (first | assumption | exact gs_at | (rw [gs_ne (by omega)]; (first | assumption | exact gs_at))))))))) (by first | assumption | exact vp_in_nI (by omega) (by omega) | exact vp_in_nI (by assumption) (by omega)) ?_
  rw [nI_clamp (by omega)]
  rw [lsA_up]
  refine w_bipush (v := nI 62) dX8_searches_8 (by decide) ?_
  refine w_istore_1 dX8_searches_10 rfl ?_
  exact ml_sr11 hV hm hR hB (fun L hL => ⟨rfl, L, rfl, hL⟩) 62 (updF L0 63 0) _ (by decide) ⟨updF_at _ _ _, fun D h1 h2 => absurd h1 (by omega)⟩
theorem m_costs {E : EV} {V : Nat} {th hi ac tp ba en at_ fa dp io hm_ we sh so : Int32} {mm : Nat → Int32} {T : ST} {sd : Int32} {G : AH} {o : Nat → Nat} (hV : G.1 V = some (mO V th hi ac tp ba en at_ fa dp io hm_ we sh so)) (hm : G.1 (V + 1) = some (aI 750 mm)) (hR : MoR mm T sd) (hB : Bd T) (h7 : ∃ l : Nat → Int32, G.1 (V + 7) = some (aI 64 l)) (hO : OrdOK T o 6) : Ci E 5 kX8_costs [.ref V] G (fun r G1 => r = nI (cosN T o 6).2 ∧ ∃ l : Nat → Int32, G1 = gs (gs G V (mO V (nI 0) hi ac tp ba en at_ fa dp io hm_ we sh so)) (V + 7) (aI 64 l)) := by
  obtain ⟨r0, r3, r4, r5, r6, r7, r9, r11, r12, r14, r20, r26, rL⟩ := id hR
  obtain ⟨b0, b1, b2_, b3, b4, b5, b6, b7, b8, b9, b10, b11, b12, b13, b14, b15, b16, b17, b18, b19⟩ := id hB
  have hV2 : (gs G V (mO V (nI 0) hi ac tp ba en at_ fa dp io hm_ we sh so)).1 V = some (mO V (nI 0) hi ac tp ba en at_ fa dp io hm_ we sh so) := gs_at
  have hm2 : (gs G V (mO V (nI 0) hi ac tp ba en at_ fa dp io hm_ we sh so)).1 (V + 1) = some (aI 750 mm) := (gs_ne (by omega)).trans hm
  have h72 : ∃ l : Nat → Int32, (gs G V (mO V (nI 0) hi ac tp ba en at_ fa dp io hm_ we sh so)).1 (V + 7) = some (aI 64 l) := by obtain ⟨l, h7⟩ := h7; exact ⟨l, (gs_ne (by omega)).trans h7⟩
  refine Ct.intro rfl (by decide) [.ref V] (by simp [Value.category]) (Nat.le_of_ble_eq_true rfl) rfl ?_
  refine w_aload_n dX8_costs_0 rfl ?_
  refine w_iconst (v := nI 0) dX8_costs_1 (by decide) ?_
  refine w_putf dX8_costs_2 fl_X8_39 (by first | assumption | exact gs_at | (rw [gs_ne (by omega)]; (first | assumption | exact gs_at | (rw [gs_ne (by omega)]; (first | assumption | exact gs_at | (rw [gs_ne (by omega)]; (first | assumption | exact gs_at | (rw [gs_ne (by omega)]; (first | assumption | exact gs_at))))))))) (by simp) rfl rfl ?_
  refine w_aload_n dX8_costs_5 rfl ?_
  refine wV0d dX8_costs_6 lk_X8_315 rfl (by first | assumption | exact gs_at | (rw [gs_ne (by omega)]; (first | assumption | exact gs_at | (rw [gs_ne (by omega)]; (first | assumption | exact gs_at | (rw [gs_ne (by omega)]; (first | assumption | exact gs_at | (rw [gs_ne (by omega)]; (first | assumption | exact gs_at))))))))) rfl rfl (m_searches hV2 hm2 hR hB h72) (Nat.le_of_ble_eq_true rfl) (Nat.le_of_ble_eq_true rfl) (Nat.le_of_ble_eq_true rfl) (Nat.le_of_ble_eq_true rfl) (fun G_6 h_6 => ?_)
  obtain ⟨L, hG9, hLs⟩ := h_6
  subst hG9
  refine w_aload_n dX8_costs_9 rfl ?_
  refine w_getf dX8_costs_10 fl_X8_32 (by first | assumption | exact gs_at | (rw [gs_ne (by omega)]; (first | assumption | exact gs_at | (rw [gs_ne (by omega)]; (first | assumption | exact gs_at | (rw [gs_ne (by omega)]; (first | assumption | exact gs_at | (rw [gs_ne (by omega)]; (first | assumption | exact gs_at))))))))) rfl ?_
  refine w_iconst (v := nI 0) dX8_costs_13 (by decide) ?_
  refine w_iaload dX8_costs_14 (by first | assumption | exact gs_at | (rw [gs_ne (by omega)]; (first | assumption | exact gs_at | (rw [gs_ne (by omega)]; (first | assumption | exact gs_at | (rw [gs_ne (by omega)]; (first | assumption | exact gs_at | (rw [gs_ne (by omega)]; (first | assumption | exact gs_at))))))))) (by first | assumption | exact vp_in_nI (by omega) (by omega) | exact vp_in_nI (by assumption) (by omega)) ?_
  rw [nI_clamp (by omega)]
  rw [lsA_at]
  refine w_iret dX8_costs_15 rfl (Nat.le_of_ble_eq_true rfl) (Nat.le_of_ble_eq_true rfl) ?_
  exact ⟨_, rfl, by rw [costs_eq hB hO hLs], _, rfl⟩
theorem ml_se33 {E : EV} {Q : OC → AH → Prop} {V : Nat} {th hi ac tp ba en at_ fa dp io hm_ we sh so : Int32} {mm : Nat → Int32} {T : ST} {sd : Int32} {G : AH} {L o : Nat → Nat} {kq i : Nat} (hV : G.1 V = some (mO V th hi ac tp ba en at_ fa dp io hm_ we sh so)) (hm : G.1 (V + 1) = some (aI 750 mm)) (hR : MoR mm T sd) (hB : Bd T) (hO : OrdOK T o 6) (hLs : LsOK T L 0) (hi6 : i < 6) (kk : Wp E 5 0 0 kX8_search Q (gs G (V + 7) (aI 64 (lsA L))) (0, 0) 62 [.ref V, .int (nI kq), .int (nI (doS o i)), .int (nI (o i)), .int (nI i)] []) : ∀ (k r : Nat), o i - r < k → r ≤ o i → Wp E 5 0 0 kX8_search Q (gs G (V + 7) (aI 64 (lsA L))) (0, 0) 33 [.ref V, .int (nI kq), .int (nI (doS o i)), .int (nI r), .int (nI i)] [] := by
  obtain ⟨r0, r3, r4, r5, r6, r7, r9, r11, r12, r14, r20, r26, rL⟩ := id hR
  obtain ⟨b0, b1, b2_, b3, b4, b5, b6, b7, b8, b9, b10, b11, b12, b13, b14, b15, b16, b17, b18, b19⟩ := id hB
  have hoi := hO.1 i hi6
  have hdo := (doS_in hO i (by omega)).1
  obtain ⟨hs1, hs2⟩ := search_at hB hO hLs hi6
  have hno := doS_no hO hi6
  intro k
  induction k with
  | zero => intro r h; exact absurd h (by omega)
  | succ k ih =>
    intro r hk9 hr9
    have hV9 : (gs G (V + 7) (aI 64 (lsA L))).1 V = some (mO V th hi ac tp ba en at_ fa dp io hm_ we sh so) := (gs_ne (by omega)).trans hV
    have hm9 : (gs G (V + 7) (aI 64 (lsA L))).1 (V + 1) = some (aI 750 mm) := (gs_ne (by omega)).trans hm
    refine w_iload_n dX8_search_33 rfl ?_
    refine w_iload_n dX8_search_34 rfl ?_
    refine wS2u dX8_search_35 lk_X8_240 rfl (m_isOf (s := doS o i) (k := r) (by omega) (by omega)) (Nat.le_of_ble_eq_true rfl) (Nat.le_of_ble_eq_true rfl) (Nat.le_of_ble_eq_true rfl) (Nat.le_of_ble_eq_true rfl) ?_
    refine w_ifN_ne (tgt := 56) dX8_search_38 (by decide) (fun c_38 => ?_) (fun c_38 => ?_)
    · try simp (disch := omega) only [nI_b2, Decidable.not_not, ne_eq] at c_38
      first | refine w_iinc_3 dX8_search_56 (nI_inc _) rfl ?_ | refine w_iinc_3 dX8_search_56 rfl rfl ?_
      refine w_goto (tgt := 33) dX8_search_59 (by decide) ?_
      have hne : r ≠ o i := fun h => by first | (rw [h] at c_38; exact hno c_38) | (rw [h] at c_53; exact c_53 (by rw [hs1]))
      exact ih (r + 1) (by omega) (by omega)
    · try simp (disch := omega) only [nI_b2, Decidable.not_not, ne_eq] at c_38
      refine w_aload_n dX8_search_41 rfl ?_
      refine w_iload_n dX8_search_42 rfl ?_
      refine w_iload_n dX8_search_43 rfl ?_
      refine wV2u dX8_search_44 lk_X8_312 rfl (by first | assumption | exact gs_at | (rw [gs_ne (by omega)]; (first | assumption | exact gs_at | (rw [gs_ne (by omega)]; (first | assumption | exact gs_at | (rw [gs_ne (by omega)]; (first | assumption | exact gs_at | (rw [gs_ne (by omega)]; (first | assumption | exact gs_at))))))))) rfl rfl (m_by (D := doS o i) (r := r) hV9 hm9 hR hB gs_at hdo (by omega)) (Nat.le_of_ble_eq_true rfl) (Nat.le_of_ble_eq_true rfl) (Nat.le_of_ble_eq_true rfl) (Nat.le_of_ble_eq_true rfl) ?_
      refine w_aload_n dX8_search_47 rfl ?_
      refine w_getf dX8_search_48 fl_X8_32 (by first | assumption | exact gs_at | (rw [gs_ne (by omega)]; (first | assumption | exact gs_at | (rw [gs_ne (by omega)]; (first | assumption | exact gs_at | (rw [gs_ne (by omega)]; (first | assumption | exact gs_at | (rw [gs_ne (by omega)]; (first | assumption | exact gs_at))))))))) rfl ?_
      refine w_iload_n dX8_search_51 rfl ?_
      refine w_iaload dX8_search_52 (by first | assumption | exact gs_at | (rw [gs_ne (by omega)]; (first | assumption | exact gs_at | (rw [gs_ne (by omega)]; (first | assumption | exact gs_at | (rw [gs_ne (by omega)]; (first | assumption | exact gs_at | (rw [gs_ne (by omega)]; (first | assumption | exact gs_at))))))))) (by first | assumption | exact vp_in_nI (by omega) (by omega) | exact vp_in_nI (by assumption) (by omega)) ?_
      rw [nI_clamp (by omega)]
      rw [lsA_at]
      refine w_icmp_eq (tgt := 62) dX8_search_53 (by decide) (fun c_53 => ?_) (fun c_53 => ?_)
      · try simp (disch := omega) only [nI_b2, Decidable.not_not, ne_eq] at c_53
        have hb1 := by_le hB (hLs.up (Nat.zero_le _)) hdo (show r < 6 by omega) c_38
        have hl1 := ls_le hB hLs 64 (doS o i) (by omega) (Nat.zero_le _) hdo
        rw [nI_eq (by omega) (by omega)] at c_53
        have e : r = o i := by
          rcases Nat.lt_or_ge r (o i) with h | h
          · exact absurd c_53 (hs2 r h c_38)
          · omega
        subst e
        exact kk
      · try simp (disch := omega) only [nI_b2, Decidable.not_not, ne_eq] at c_53
        first | refine w_iinc_3 dX8_search_56 (nI_inc _) rfl ?_ | refine w_iinc_3 dX8_search_56 rfl rfl ?_
        refine w_goto (tgt := 33) dX8_search_59 (by decide) ?_
        have hne : r ≠ o i := fun h => by first | (rw [h] at c_38; exact hno c_38) | (rw [h] at c_53; exact c_53 (by rw [hs1]))
        exact ih (r + 1) (by omega) (by omega)
theorem ml_se25 {E : EV} {Q : OC → AH → Prop} {V : Nat} {th hi ac tp ba en at_ fa dp io hm_ we sh so : Int32} {mm : Nat → Int32} {T : ST} {sd : Int32} {G : AH} {L o : Nat → Nat} {kq : Nat} (hV : G.1 V = some (mO V th hi ac tp ba en at_ fa dp io hm_ we sh so)) (hm : G.1 (V + 1) = some (aI 750 mm)) (hR : MoR mm T sd) (hB : Bd T) (hO : OrdOK T o 6) (hLs : LsOK T L 0) (hkq : kq < 6) (hQ : Q (.inl (some (.int (nI (o kq))))) (gs G (V + 7) (aI 64 (lsA L)))) : ∀ (k i : Nat) (x : Nat), kq + 1 - i < k → i ≤ kq + 1 → (∀ j, i = j + 1 → x = o j) → Wp E 5 0 0 kX8_search Q (gs G (V + 7) (aI 64 (lsA L))) (0, 0) 25 [.ref V, .int (nI kq), .int (nI (doS o i)), .int (nI x), .int (nI i)] [] := by
  obtain ⟨r0, r3, r4, r5, r6, r7, r9, r11, r12, r14, r20, r26, rL⟩ := id hR
  obtain ⟨b0, b1, b2_, b3, b4, b5, b6, b7, b8, b9, b10, b11, b12, b13, b14, b15, b16, b17, b18, b19⟩ := id hB
  intro k
  induction k with
  | zero => intro i x h; exact absurd h (by omega)
  | succ k ih =>
    intro i x hk9 hi9 hx
    refine w_iload dX8_search_25 rfl ?_
    refine w_iload_n dX8_search_27 rfl ?_
    refine w_icmp_gt (tgt := 74) dX8_search_28 (by decide) (fun c_28 => ?_) (fun c_28 => ?_)
    · try simp (disch := omega) only [nI_b2, Decidable.not_not, nI_ltI, nI_leI, nI_eq, ge_iff_le, gt_iff_lt, ne_eq, Nat.not_lt, Nat.not_le] at c_28
      refine w_iload_n dX8_search_74 rfl ?_
      refine w_iret dX8_search_75 rfl (Nat.le_of_ble_eq_true rfl) (Nat.le_of_ble_eq_true rfl) ?_
      have e : i = kq + 1 := by omega
      subst e
      rw [hx kq rfl]
      exact hQ
    · try simp (disch := omega) only [nI_b2, Decidable.not_not, nI_ltI, nI_leI, nI_eq, ge_iff_le, gt_iff_lt, ne_eq, Nat.not_lt, Nat.not_le] at c_28
      refine w_iconst (v := nI 0) dX8_search_31 (by decide) ?_
      refine w_istore_3 dX8_search_32 rfl ?_
      have hoi := hO.1 i (by omega)
      have hp2 := p2_lt (show o i < 31 by omega)
      refine ml_se33 hV hm hR hB hO hLs (by omega) ?_ (o i + 1) 0 (by omega) (by omega)
      refine w_iload_n dX8_search_62 rfl ?_
      refine w_iconst (v := nI 1) dX8_search_63 (by decide) ?_
      refine w_iload_n dX8_search_64 rfl ?_
      refine w_ishlN (by omega) hp2 dX8_search_65 ?_
      first | refine w_iorN dX8_search_66 ?_ | refine w_ior dX8_search_66 ?_
      refine w_istore_2 dX8_search_67 rfl ?_
      first | refine w_iinc_4 dX8_search_68 (nI_inc _) rfl ?_ | refine w_iinc_4 dX8_search_68 rfl rfl ?_
      refine w_goto (tgt := 25) dX8_search_71 (by decide) ?_
      exact ih (i + 1) (o i) (by omega) (by omega) (fun j hj => by rw [show j = i by omega])
theorem m_search {E : EV} {V : Nat} {th hi ac tp ba en at_ fa dp io hm_ we sh so : Int32} {mm : Nat → Int32} {T : ST} {sd : Int32} {G : AH} {o : Nat → Nat} {x : Int32} (hV : G.1 V = some (mO V th hi ac tp ba en at_ fa dp io hm_ we sh so)) (hm : G.1 (V + 1) = some (aI 750 mm)) (hR : MoR mm T sd) (hB : Bd T) (h7 : ∃ l : Nat → Int32, G.1 (V + 7) = some (aI 64 l)) (hO : OrdOK T o 6) : Ci E 5 kX8_search [.ref V, .int x] G (fun r G1 => r = (if okI 6 x then nI (o (ix x)) else -1) ∧ ∃ l : Nat → Int32, G1 = gs (gs G V (mO V (nI 0) hi ac tp ba en at_ fa dp io hm_ we sh so)) (V + 7) (aI 64 l)) := by
  obtain ⟨r0, r3, r4, r5, r6, r7, r9, r11, r12, r14, r20, r26, rL⟩ := id hR
  obtain ⟨b0, b1, b2_, b3, b4, b5, b6, b7, b8, b9, b10, b11, b12, b13, b14, b15, b16, b17, b18, b19⟩ := id hB
  have hV2 : (gs G V (mO V (nI 0) hi ac tp ba en at_ fa dp io hm_ we sh so)).1 V = some (mO V (nI 0) hi ac tp ba en at_ fa dp io hm_ we sh so) := gs_at
  have hm2 : (gs G V (mO V (nI 0) hi ac tp ba en at_ fa dp io hm_ we sh so)).1 (V + 1) = some (aI 750 mm) := (gs_ne (by omega)).trans hm
  have h72 : ∃ l : Nat → Int32, (gs G V (mO V (nI 0) hi ac tp ba en at_ fa dp io hm_ we sh so)).1 (V + 7) = some (aI 64 l) := by obtain ⟨l, h7⟩ := h7; exact ⟨l, (gs_ne (by omega)).trans h7⟩
  refine Ct.intro rfl (by decide) [.ref V, .int x, .float 0, .float 0, .float 0] (by simp [Value.category]) (Nat.le_of_ble_eq_true rfl) rfl ?_
  refine w_aload_n dX8_search_0 rfl ?_
  refine w_iconst (v := nI 0) dX8_search_1 (by decide) ?_
  refine w_putf dX8_search_2 fl_X8_39 (by first | assumption | exact gs_at | (rw [gs_ne (by omega)]; (first | assumption | exact gs_at | (rw [gs_ne (by omega)]; (first | assumption | exact gs_at | (rw [gs_ne (by omega)]; (first | assumption | exact gs_at | (rw [gs_ne (by omega)]; (first | assumption | exact gs_at))))))))) (by simp) rfl rfl ?_
  refine w_iload_n dX8_search_5 rfl ?_
  refine wS1u dX8_search_6 lk_X8_280 rfl (m_isRoom) (Nat.le_of_ble_eq_true rfl) (Nat.le_of_ble_eq_true rfl) (Nat.le_of_ble_eq_true rfl) (Nat.le_of_ble_eq_true rfl) ?_
  refine w_ifN_ne (tgt := 14) dX8_search_9 (by decide) (fun c_9 => ?_) (fun c_9 => ?_)
  · try simp (disch := omega) only [nI_b2, Decidable.not_not, nI_ltI, nI_leI, nI_eq, ge_iff_le, gt_iff_lt, ne_eq, Nat.not_lt, Nat.not_le] at c_9
    obtain ⟨kq, hkq, e⟩ := in_N (n := 6) (by omega) c_9
    subst e
    refine w_aload_n dX8_search_14 rfl ?_
    refine wV0d dX8_search_15 lk_X8_315 rfl (by first | assumption | exact gs_at | (rw [gs_ne (by omega)]; (first | assumption | exact gs_at | (rw [gs_ne (by omega)]; (first | assumption | exact gs_at | (rw [gs_ne (by omega)]; (first | assumption | exact gs_at | (rw [gs_ne (by omega)]; (first | assumption | exact gs_at))))))))) rfl rfl (m_searches hV2 hm2 hR hB h72) (Nat.le_of_ble_eq_true rfl) (Nat.le_of_ble_eq_true rfl) (Nat.le_of_ble_eq_true rfl) (Nat.le_of_ble_eq_true rfl) (fun G_15 h_15 => ?_)
    obtain ⟨L, hG9, hLs⟩ := h_15
    subst hG9
    refine w_iconst (v := nI 0) dX8_search_18 (by decide) ?_
    refine w_istore_2 dX8_search_19 rfl ?_
    refine w_iconst (v := nI 0) dX8_search_20 (by decide) ?_
    refine w_istore_3 dX8_search_21 rfl ?_
    refine w_iconst (v := nI 0) dX8_search_22 (by decide) ?_
    refine w_istore_4 dX8_search_23 rfl ?_
    exact ml_se25 hV2 hm2 hR hB hO hLs hkq ⟨_, rfl, by rw [if_pos c_9, ix_nI (by omega)], _, rfl⟩ (kq + 2) 0 0 (by omega) (by omega) (fun j hj => absurd hj (by omega))
  · try simp (disch := omega) only [nI_b2, Decidable.not_not, nI_ltI, nI_leI, nI_eq, ge_iff_le, gt_iff_lt, ne_eq, Nat.not_lt, Nat.not_le] at c_9
    refine w_iconst (v := (-1)) dX8_search_12 (by decide) ?_
    refine w_iret dX8_search_13 rfl (Nat.le_of_ble_eq_true rfl) (Nat.le_of_ble_eq_true rfl) ?_
    obtain ⟨l, h72⟩ := h72
    exact ⟨_, rfl, by rw [if_neg c_9], l, (gs_id h72).symm⟩
