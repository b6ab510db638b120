/-! the model: goes -/
theorem ml_day {E : EV} {Q : OC → AH → Prop} {V : Nat} {th hi ac tp fa : Int32} {mm : Nat → Int32} {T : ST} {sd : Int32} {G : AH} {D : LD} (hAsk : AskC E D) (hD : WFD D) (hm0 : LwR mm D) (hB : Bd T) {n st c i : Nat} {a : Nat → Int32} {ba en at_ dp io hm_ we sh so : Int32} (hst : st ≤ 1) (hR : MoR mm T sd) (kk : ∀ (a nn : Nat → Int32) (ba en at_ dp io hm_ we sh so : Int32), MoR nn (dayT D st T sd) (dayS D st T sd) → Keep mm nn → Wp E 58 0 0 kX8_goes Q (gs (gs (gs G (V + 6) (aI 7 (a))) (V + 1) (aI 750 (nn))) V (mO V th hi ac tp ba en at_ fa dp io hm_ we sh so)) (0, 0) 5 [.ref V, .int (nI n), .int (nI st), .int (nI (c + (if leftN T = 1 then 1 else 0))), .int (nI (i + 1))] []) : Wp E 58 0 0 kX8_goes Q (gs (gs (gs G (V + 6) (aI 7 (a))) (V + 1) (aI 750 (mm))) V (mO V th hi ac tp ba en at_ fa dp io hm_ we sh so)) (0, 0) 11 [.ref V, .int (nI n), .int (nI st), .int (nI (c)), .int (nI (i))] [] := by
  have hBi : Bd (itsT D T (T 12 0)) := hB.its (T 12 0) (Nat.le_refl _)
  have e12 : ∀ j, (itsT D T (T 12 0)) 12 j = T 12 j := fun j => itsT_ne D T (by decide) (by decide) (by decide) j (T 12 0)
  have b15 : T 12 3 ≤ 9999 := hB.2.2.2.2.2.2.2.2.2.2.2.2.2.2.2.1
  refine w_aload_n dX8_goes_11 rfl ?_
  refine wV0d dX8_goes_12 lk_X8_268 rfl (by first | assumption | exact gs_at | (rw [gs_ne (by omega)]; (first | assumption | exact gs_at | (rw [gs_ne (by omega)]; (first | assumption | exact gs_at | (rw [gs_ne (by omega)]; (first | assumption | exact gs_at | (rw [gs_ne (by omega)]; (first | assumption | exact gs_at))))))))) rfl rfl (m_moves hAsk hD hm0 hB trivial hR) (Nat.le_of_ble_eq_true rfl) (Nat.le_of_ble_eq_true rfl) (Nat.le_of_ble_eq_true rfl) (Nat.le_of_ble_eq_true rfl) (fun G1 h_12 => ?_)
  obtain ⟨a1, n1, ba, en, at_, dp, io, hm_, we, sh, so, hG1, hR1, hK1⟩ := h_12
  subst hG1
  have hV1 : (gs (gs (gs G (V + 6) (aI 7 (a1))) (V + 1) (aI 750 (n1))) V (mO V th hi ac tp ba en at_ fa dp io hm_ we sh so)).1 V = some (mO V th hi ac tp ba en at_ fa dp io hm_ we sh so) := gs_at
  have hm1 : (gs (gs (gs G (V + 6) (aI 7 (a1))) (V + 1) (aI 750 (n1))) V (mO V th hi ac tp ba en at_ fa dp io hm_ we sh so)).1 (V + 1) = some (aI 750 n1) := (gs_ne (by omega)).trans gs_at
  refine w_iload_n dX8_goes_15 rfl ?_
  refine w_ifN_eq (tgt := 23) dX8_goes_16 (by decide) (fun c_16 => ?_) (fun c_16 => ?_)
  · try simp (disch := omega) only [nI_b2, Decidable.not_not, nI_ltI, nI_leI, nI_eq, ge_iff_le, gt_iff_lt, ne_eq, Nat.not_lt, Nat.not_le] at c_16
    have hs0 : st = 0 := by omega
    have e4 : n1 4 = nI (T 12 3) := by rw [hR1.2.2.1, e12]
    have hmid : midT D st T sd = (itsT D T (T 12 0)) := by unfold midT; rw [if_pos hs0]
    have hdS : dayS D st T sd = sd := by unfold dayS; rw [if_pos hs0]
    refine w_aload_n dX8_goes_23 rfl ?_
    refine w_getf dX8_goes_24 fl_X8_7 (by first | assumption | exact gs_at | (rw [gs_ne (by omega)]; (first | assumption | exact gs_at | (rw [gs_ne (by omega)]; (first | assumption | exact gs_at | (rw [gs_ne (by omega)]; (first | assumption | exact gs_at | (rw [gs_ne (by omega)]; (first | assumption | exact gs_at))))))))) rfl ?_
    refine w_iconst (v := nI 4) dX8_goes_27 (by decide) ?_
    refine w_iaload dX8_goes_28 (by first | assumption | exact gs_at | (rw [gs_ne (by omega)]; (first | assumption | exact gs_at | (rw [gs_ne (by omega)]; (first | assumption | exact gs_at | (rw [gs_ne (by omega)]; (first | assumption | exact gs_at | (rw [gs_ne (by omega)]; (first | assumption | exact gs_at))))))))) (by first | assumption | exact vp_in_nI (by omega) (by omega) | exact vp_in_nI (by assumption) (by omega)) ?_
    rw [nI_clamp (by omega)]
    rw [e4]
    refine w_sipush (v := nI 182) dX8_goes_29 (by decide) ?_
    first | refine w_iremN (by omega) (by omega) (by omega) dX8_goes_32 ?_ | refine w_irem dX8_goes_32 (by decide) ?_
    refine w_sipush (v := nI 181) dX8_goes_33 (by decide) ?_
    refine w_icmp_ne (tgt := 46) dX8_goes_36 (by decide) (fun c_36 => ?_) (fun c_36 => ?_)
    · try simp (disch := omega) only [nI_b2, Decidable.not_not, nI_ltI, nI_leI, nI_eq, ge_iff_le, gt_iff_lt, ne_eq, Nat.not_lt, Nat.not_le] at c_36
      refine w_aload_n dX8_goes_46 rfl ?_
      refine w_getf dX8_goes_47 fl_X8_7 (by first | assumption | exact gs_at | (rw [gs_ne (by omega)]; (first | assumption | exact gs_at | (rw [gs_ne (by omega)]; (first | assumption | exact gs_at | (rw [gs_ne (by omega)]; (first | assumption | exact gs_at | (rw [gs_ne (by omega)]; (first | assumption | exact gs_at))))))))) rfl ?_
      refine w_iconst (v := nI 4) dX8_goes_50 (by decide) ?_
      refine w_sipush (v := nI 9999) dX8_goes_51 (by decide) ?_
      refine w_aload_n dX8_goes_54 rfl ?_
      refine w_getf dX8_goes_55 fl_X8_7 (by first | assumption | exact gs_at | (rw [gs_ne (by omega)]; (first | assumption | exact gs_at | (rw [gs_ne (by omega)]; (first | assumption | exact gs_at | (rw [gs_ne (by omega)]; (first | assumption | exact gs_at | (rw [gs_ne (by omega)]; (first | assumption | exact gs_at))))))))) rfl ?_
      refine w_iconst (v := nI 4) dX8_goes_58 (by decide) ?_
      refine w_iaload dX8_goes_59 (by first | assumption | exact gs_at | (rw [gs_ne (by omega)]; (first | assumption | exact gs_at | (rw [gs_ne (by omega)]; (first | assumption | exact gs_at | (rw [gs_ne (by omega)]; (first | assumption | exact gs_at | (rw [gs_ne (by omega)]; (first | assumption | exact gs_at))))))))) (by first | assumption | exact vp_in_nI (by omega) (by omega) | exact vp_in_nI (by assumption) (by omega)) ?_
      rw [nI_clamp (by omega)]
      first | rw [e5] | rw [e4]
      refine w_iconst (v := nI 1) dX8_goes_60 (by decide) ?_
      first | refine w_iaddN dX8_goes_61 ?_ | refine w_iadd dX8_goes_61 ?_
      refine wS2u dX8_goes_62 lk_X8_222 rfl (m_lesser (by omega) (by omega)) (Nat.le_of_ble_eq_true rfl) (Nat.le_of_ble_eq_true rfl) (Nat.le_of_ble_eq_true rfl) (Nat.le_of_ble_eq_true rfl) ?_
      refine w_iastore dX8_goes_65 (by first | assumption | exact gs_at | (rw [gs_ne (by omega)]; (first | assumption | exact gs_at | (rw [gs_ne (by omega)]; (first | assumption | exact gs_at | (rw [gs_ne (by omega)]; (first | assumption | exact gs_at | (rw [gs_ne (by omega)]; (first | assumption | exact gs_at))))))))) (by first | assumption | exact vp_in_nI (by omega) (by omega) | exact vp_in_nI (by assumption) (by omega)) ?_
      rw [nI_clamp (by omega)]
      first | refine w_iinc_4 dX8_goes_66 (nI_inc _) rfl ?_ | refine w_iinc_4 dX8_goes_66 rfl rfl ?_
      refine w_goto (tgt := 5) dX8_goes_69 (by decide) ?_
      rw [gs_comm (a := V) (b := V + 1) (by omega), gs_gs]
      have hl : ¬ leftN T = 1 := by unfold leftN; omega
      have hdT : dayT D st T sd = tu (itsT D T (T 12 0)) 12 3 (min 9999 (T 12 3 + 1)) := by unfold dayT; rw [if_neg hl, hmid]
      have h9 := kk a1 (upd n1 4 (nI (min 9999 (T 12 3 + 1)))) ba en at_ dp io hm_ we sh so (by rw [hdT, hdS]; exact hR1.s3) (hK1.tr (Keep.up (by decide) (by decide) (by decide)))
      rw [if_neg hl] at h9
      exact h9
    · try simp (disch := omega) only [nI_b2, Decidable.not_not, nI_ltI, nI_leI, nI_eq, ge_iff_le, gt_iff_lt, ne_eq, Nat.not_lt, Nat.not_le] at c_36
      refine w_aload_n dX8_goes_39 rfl ?_
      refine wV0d dX8_goes_40 lk_X8_274 rfl (by first | assumption | exact gs_at | (rw [gs_ne (by omega)]; (first | assumption | exact gs_at | (rw [gs_ne (by omega)]; (first | assumption | exact gs_at | (rw [gs_ne (by omega)]; (first | assumption | exact gs_at | (rw [gs_ne (by omega)]; (first | assumption | exact gs_at))))))))) rfl rfl (m_leaves hV1 hm1 hR1 hBi) (Nat.le_of_ble_eq_true rfl) (Nat.le_of_ble_eq_true rfl) (Nat.le_of_ble_eq_true rfl) (Nat.le_of_ble_eq_true rfl) (fun G3 h_40 => ?_)
      obtain ⟨n3, hG3, hR3, hK9⟩ := h_40
      rw [gs_comm (a := V) (b := V + 1) (by omega), gs_gs] at hG3
      subst hG3
      have e5 : n3 4 = nI (T 12 3) := by rw [hR3.2.2.1, leavT_12 _ (by decide) (by decide) (by decide), e12]
      have hK5 := hK1.tr hK9
      first | refine w_iinc_3 dX8_goes_43 (nI_inc _) rfl ?_ | refine w_iinc_3 dX8_goes_43 rfl rfl ?_
      refine w_aload_n dX8_goes_46 rfl ?_
      refine w_getf dX8_goes_47 fl_X8_7 (by first | assumption | exact gs_at | (rw [gs_ne (by omega)]; (first | assumption | exact gs_at | (rw [gs_ne (by omega)]; (first | assumption | exact gs_at | (rw [gs_ne (by omega)]; (first | assumption | exact gs_at | (rw [gs_ne (by omega)]; (first | assumption | exact gs_at))))))))) rfl ?_
      refine w_iconst (v := nI 4) dX8_goes_50 (by decide) ?_
      refine w_sipush (v := nI 9999) dX8_goes_51 (by decide) ?_
      refine w_aload_n dX8_goes_54 rfl ?_
      refine w_getf dX8_goes_55 fl_X8_7 (by first | assumption | exact gs_at | (rw [gs_ne (by omega)]; (first | assumption | exact gs_at | (rw [gs_ne (by omega)]; (first | assumption | exact gs_at | (rw [gs_ne (by omega)]; (first | assumption | exact gs_at | (rw [gs_ne (by omega)]; (first | assumption | exact gs_at))))))))) rfl ?_
      refine w_iconst (v := nI 4) dX8_goes_58 (by decide) ?_
      refine w_iaload dX8_goes_59 (by first | assumption | exact gs_at | (rw [gs_ne (by omega)]; (first | assumption | exact gs_at | (rw [gs_ne (by omega)]; (first | assumption | exact gs_at | (rw [gs_ne (by omega)]; (first | assumption | exact gs_at | (rw [gs_ne (by omega)]; (first | assumption | exact gs_at))))))))) (by first | assumption | exact vp_in_nI (by omega) (by omega) | exact vp_in_nI (by assumption) (by omega)) ?_
      rw [nI_clamp (by omega)]
      first | rw [e5] | rw [e4]
      refine w_iconst (v := nI 1) dX8_goes_60 (by decide) ?_
      first | refine w_iaddN dX8_goes_61 ?_ | refine w_iadd dX8_goes_61 ?_
      refine wS2u dX8_goes_62 lk_X8_222 rfl (m_lesser (by omega) (by omega)) (Nat.le_of_ble_eq_true rfl) (Nat.le_of_ble_eq_true rfl) (Nat.le_of_ble_eq_true rfl) (Nat.le_of_ble_eq_true rfl) ?_
      refine w_iastore dX8_goes_65 (by first | assumption | exact gs_at | (rw [gs_ne (by omega)]; (first | assumption | exact gs_at | (rw [gs_ne (by omega)]; (first | assumption | exact gs_at | (rw [gs_ne (by omega)]; (first | assumption | exact gs_at | (rw [gs_ne (by omega)]; (first | assumption | exact gs_at))))))))) (by first | assumption | exact vp_in_nI (by omega) (by omega) | exact vp_in_nI (by assumption) (by omega)) ?_
      rw [nI_clamp (by omega)]
      first | refine w_iinc_4 dX8_goes_66 (nI_inc _) rfl ?_ | refine w_iinc_4 dX8_goes_66 rfl rfl ?_
      refine w_goto (tgt := 5) dX8_goes_69 (by decide) ?_
      rw [gs_comm (a := V) (b := V + 1) (by omega), gs_gs]
      have hl : leftN T = 1 := by unfold leftN; omega
      have hdT : dayT D st T sd = tu (leavT (itsT D T (T 12 0))) 12 3 (min 9999 (T 12 3 + 1)) := by unfold dayT; rw [if_pos hl, hmid]
      have h9 := kk a1 (upd n3 4 (nI (min 9999 (T 12 3 + 1)))) ba en at_ dp io hm_ we sh so (by rw [hdT, hdS]; exact hR3.s3) (hK5.tr (Keep.up (by decide) (by decide) (by decide)))
      rw [if_pos hl] at h9
      exact h9
  · try simp (disch := omega) only [nI_b2, Decidable.not_not, nI_ltI, nI_leI, nI_eq, ge_iff_le, gt_iff_lt, ne_eq, Nat.not_lt, Nat.not_le] at c_16
    refine w_aload_n dX8_goes_19 rfl ?_
    refine wV0d dX8_goes_20 lk_X8_271 rfl (by first | assumption | exact gs_at | (rw [gs_ne (by omega)]; (first | assumption | exact gs_at | (rw [gs_ne (by omega)]; (first | assumption | exact gs_at | (rw [gs_ne (by omega)]; (first | assumption | exact gs_at | (rw [gs_ne (by omega)]; (first | assumption | exact gs_at))))))))) rfl rfl (m_storms hV1 hm1 hR1 hBi) (Nat.le_of_ble_eq_true rfl) (Nat.le_of_ble_eq_true rfl) (Nat.le_of_ble_eq_true rfl) (Nat.le_of_ble_eq_true rfl) (fun G2 h_20 => ?_)
    obtain ⟨n2, hG2, hR2, hK2⟩ := h_20
    rw [gs_comm (a := V) (b := V + 1) (by omega), gs_gs] at hG2
    subst hG2
    have hBm := hBi.wth sd
    have hK3 := hK1.tr hK2
    have hV2 : (gs (gs (gs G (V + 6) (aI 7 (a1))) (V + 1) (aI 750 (n2))) V (mO V th hi ac tp ba en at_ fa dp io hm_ we sh so)).1 V = some (mO V th hi ac tp ba en at_ fa dp io hm_ we sh so) := gs_at
    have hm2 : (gs (gs (gs G (V + 6) (aI 7 (a1))) (V + 1) (aI 750 (n2))) V (mO V th hi ac tp ba en at_ fa dp io hm_ we sh so)).1 (V + 1) = some (aI 750 n2) := (gs_ne (by omega)).trans gs_at
    have e4 : n2 4 = nI (T 12 3) := by rw [hR2.2.2.1, wthT_ne _ _ (by decide), e12]
    have hs0 : st = 1 := by omega
    have hmid : midT D st T sd = (wthT (itsT D T (T 12 0)) sd) := by unfold midT; rw [if_neg (by omega)]
    have hdS : dayS D st T sd = (wthS (itsT D T (T 12 0)) sd) := by unfold dayS; rw [if_neg (by omega)]
    refine w_aload_n dX8_goes_23 rfl ?_
    refine w_getf dX8_goes_24 fl_X8_7 (by first | assumption | exact gs_at | (rw [gs_ne (by omega)]; (first | assumption | exact gs_at | (rw [gs_ne (by omega)]; (first | assumption | exact gs_at | (rw [gs_ne (by omega)]; (first | assumption | exact gs_at | (rw [gs_ne (by omega)]; (first | assumption | exact gs_at))))))))) rfl ?_
    refine w_iconst (v := nI 4) dX8_goes_27 (by decide) ?_
    refine w_iaload dX8_goes_28 (by first | assumption | exact gs_at | (rw [gs_ne (by omega)]; (first | assumption | exact gs_at | (rw [gs_ne (by omega)]; (first | assumption | exact gs_at | (rw [gs_ne (by omega)]; (first | assumption | exact gs_at | (rw [gs_ne (by omega)]; (first | assumption | exact gs_at))))))))) (by first | assumption | exact vp_in_nI (by omega) (by omega) | exact vp_in_nI (by assumption) (by omega)) ?_
    rw [nI_clamp (by omega)]
    rw [e4]
    refine w_sipush (v := nI 182) dX8_goes_29 (by decide) ?_
    first | refine w_iremN (by omega) (by omega) (by omega) dX8_goes_32 ?_ | refine w_irem dX8_goes_32 (by decide) ?_
    refine w_sipush (v := nI 181) dX8_goes_33 (by decide) ?_
    refine w_icmp_ne (tgt := 46) dX8_goes_36 (by decide) (fun c_36 => ?_) (fun c_36 => ?_)
    · try simp (disch := omega) only [nI_b2, Decidable.not_not, nI_ltI, nI_leI, nI_eq, ge_iff_le, gt_iff_lt, ne_eq, Nat.not_lt, Nat.not_le] at c_36
      refine w_aload_n dX8_goes_46 rfl ?_
      refine w_getf dX8_goes_47 fl_X8_7 (by first | assumption | exact gs_at | (rw [gs_ne (by omega)]; (first | assumption | exact gs_at | (rw [gs_ne (by omega)]; (first | assumption | exact gs_at | (rw [gs_ne (by omega)]; (first | assumption | exact gs_at | (rw [gs_ne (by omega)]; (first | assumption | exact gs_at))))))))) rfl ?_
      refine w_iconst (v := nI 4) dX8_goes_50 (by decide) ?_
      refine w_sipush (v := nI 9999) dX8_goes_51 (by decide) ?_
      refine w_aload_n dX8_goes_54 rfl ?_
      refine w_getf dX8_goes_55 fl_X8_7 (by first | assumption | exact gs_at | (rw [gs_ne (by omega)]; (first | assumption | exact gs_at | (rw [gs_ne (by omega)]; (first | assumption | exact gs_at | (rw [gs_ne (by omega)]; (first | assumption | exact gs_at | (rw [gs_ne (by omega)]; (first | assumption | exact gs_at))))))))) rfl ?_
      refine w_iconst (v := nI 4) dX8_goes_58 (by decide) ?_
      refine w_iaload dX8_goes_59 (by first | assumption | exact gs_at | (rw [gs_ne (by omega)]; (first | assumption | exact gs_at | (rw [gs_ne (by omega)]; (first | assumption | exact gs_at | (rw [gs_ne (by omega)]; (first | assumption | exact gs_at | (rw [gs_ne (by omega)]; (first | assumption | exact gs_at))))))))) (by first | assumption | exact vp_in_nI (by omega) (by omega) | exact vp_in_nI (by assumption) (by omega)) ?_
      rw [nI_clamp (by omega)]
      first | rw [e5] | rw [e4]
      refine w_iconst (v := nI 1) dX8_goes_60 (by decide) ?_
      first | refine w_iaddN dX8_goes_61 ?_ | refine w_iadd dX8_goes_61 ?_
      refine wS2u dX8_goes_62 lk_X8_222 rfl (m_lesser (by omega) (by omega)) (Nat.le_of_ble_eq_true rfl) (Nat.le_of_ble_eq_true rfl) (Nat.le_of_ble_eq_true rfl) (Nat.le_of_ble_eq_true rfl) ?_
      refine w_iastore dX8_goes_65 (by first | assumption | exact gs_at | (rw [gs_ne (by omega)]; (first | assumption | exact gs_at | (rw [gs_ne (by omega)]; (first | assumption | exact gs_at | (rw [gs_ne (by omega)]; (first | assumption | exact gs_at | (rw [gs_ne (by omega)]; (first | assumption | exact gs_at))))))))) (by first | assumption | exact vp_in_nI (by omega) (by omega) | exact vp_in_nI (by assumption) (by omega)) ?_
      rw [nI_clamp (by omega)]
      first | refine w_iinc_4 dX8_goes_66 (nI_inc _) rfl ?_ | refine w_iinc_4 dX8_goes_66 rfl rfl ?_
      refine w_goto (tgt := 5) dX8_goes_69 (by decide) ?_
      rw [gs_comm (a := V) (b := V + 1) (by omega), gs_gs]
      have hl : ¬ leftN T = 1 := by unfold leftN; omega
      have hdT : dayT D st T sd = tu (wthT (itsT D T (T 12 0)) sd) 12 3 (min 9999 (T 12 3 + 1)) := by unfold dayT; rw [if_neg hl, hmid]
      have h9 := kk a1 (upd n2 4 (nI (min 9999 (T 12 3 + 1)))) ba en at_ dp io hm_ we sh so (by rw [hdT, hdS]; exact hR2.s3) (hK3.tr (Keep.up (by decide) (by decide) (by decide)))
      rw [if_neg hl] at h9
      exact h9
    · try simp (disch := omega) only [nI_b2, Decidable.not_not, nI_ltI, nI_leI, nI_eq, ge_iff_le, gt_iff_lt, ne_eq, Nat.not_lt, Nat.not_le] at c_36
      refine w_aload_n dX8_goes_39 rfl ?_
      refine wV0d dX8_goes_40 lk_X8_274 rfl (by first | assumption | exact gs_at | (rw [gs_ne (by omega)]; (first | assumption | exact gs_at | (rw [gs_ne (by omega)]; (first | assumption | exact gs_at | (rw [gs_ne (by omega)]; (first | assumption | exact gs_at | (rw [gs_ne (by omega)]; (first | assumption | exact gs_at))))))))) rfl rfl (m_leaves hV2 hm2 hR2 hBm) (Nat.le_of_ble_eq_true rfl) (Nat.le_of_ble_eq_true rfl) (Nat.le_of_ble_eq_true rfl) (Nat.le_of_ble_eq_true rfl) (fun G3 h_40 => ?_)
      obtain ⟨n3, hG3, hR3, hK9⟩ := h_40
      rw [gs_comm (a := V) (b := V + 1) (by omega), gs_gs] at hG3
      subst hG3
      have e5 : n3 4 = nI (T 12 3) := by rw [hR3.2.2.1, leavT_12 _ (by decide) (by decide) (by decide), wthT_ne _ _ (by decide), e12]
      have hK5 := hK3.tr hK9
      first | refine w_iinc_3 dX8_goes_43 (nI_inc _) rfl ?_ | refine w_iinc_3 dX8_goes_43 rfl rfl ?_
      refine w_aload_n dX8_goes_46 rfl ?_
      refine w_getf dX8_goes_47 fl_X8_7 (by first | assumption | exact gs_at | (rw [gs_ne (by omega)]; (first | assumption | exact gs_at | (rw [gs_ne (by omega)]; (first | assumption | exact gs_at | (rw [gs_ne (by omega)]; (first | assumption | exact gs_at | (rw [gs_ne (by omega)]; (first | assumption | exact gs_at))))))))) rfl ?_
      refine w_iconst (v := nI 4) dX8_goes_50 (by decide) ?_
      refine w_sipush (v := nI 9999) dX8_goes_51 (by decide) ?_
      refine w_aload_n dX8_goes_54 rfl ?_
      refine w_getf dX8_goes_55 fl_X8_7 (by first | assumption | exact gs_at | (rw [gs_ne (by omega)]; (first | assumption | exact gs_at | (rw [gs_ne (by omega)]; (first | assumption | exact gs_at | (rw [gs_ne (by omega)]; (first | assumption | exact gs_at | (rw [gs_ne (by omega)]; (first | assumption | exact gs_at))))))))) rfl ?_
      refine w_iconst (v := nI 4) dX8_goes_58 (by decide) ?_
      refine w_iaload dX8_goes_59 (by first | assumption | exact gs_at | (rw [gs_ne (by omega)]; (first | assumption | exact gs_at | (rw [gs_ne (by omega)]; (first | assumption | exact gs_at | (rw [gs_ne (by omega)]; (first | assumption | exact gs_at | (rw [gs_ne (by omega)]; (first | assumption | exact gs_at))))))))) (by first | assumption | exact vp_in_nI (by omega) (by omega) | exact vp_in_nI (by assumption) (by omega)) ?_
      rw [nI_clamp (by omega)]
      first | rw [e5] | rw [e4]
      refine w_iconst (v := nI 1) dX8_goes_60 (by decide) ?_
      first | refine w_iaddN dX8_goes_61 ?_ | refine w_iadd dX8_goes_61 ?_
      refine wS2u dX8_goes_62 lk_X8_222 rfl (m_lesser (by omega) (by omega)) (Nat.le_of_ble_eq_true rfl) (Nat.le_of_ble_eq_true rfl) (Nat.le_of_ble_eq_true rfl) (Nat.le_of_ble_eq_true rfl) ?_
      refine w_iastore dX8_goes_65 (by first | assumption | exact gs_at | (rw [gs_ne (by omega)]; (first | assumption | exact gs_at | (rw [gs_ne (by omega)]; (first | assumption | exact gs_at | (rw [gs_ne (by omega)]; (first | assumption | exact gs_at | (rw [gs_ne (by omega)]; (first | assumption | exact gs_at))))))))) (by first | assumption | exact vp_in_nI (by omega) (by omega) | exact vp_in_nI (by assumption) (by omega)) ?_
      rw [nI_clamp (by omega)]
      first | refine w_iinc_4 dX8_goes_66 (nI_inc _) rfl ?_ | refine w_iinc_4 dX8_goes_66 rfl rfl ?_
      refine w_goto (tgt := 5) dX8_goes_69 (by decide) ?_
      rw [gs_comm (a := V) (b := V + 1) (by omega), gs_gs]
      have hl : leftN T = 1 := by unfold leftN; omega
      have hdT : dayT D st T sd = tu (leavT (wthT (itsT D T (T 12 0)) sd)) 12 3 (min 9999 (T 12 3 + 1)) := by unfold dayT; rw [if_pos hl, hmid]
      have h9 := kk a1 (upd n3 4 (nI (min 9999 (T 12 3 + 1)))) ba en at_ dp io hm_ we sh so (by rw [hdT, hdS]; exact hR3.s3) (hK5.tr (Keep.up (by decide) (by decide) (by decide)))
      rw [if_pos hl] at h9
      exact h9
theorem ml_goes {E : EV} {Q : OC → AH → Prop} {V : Nat} {th hi ac tp fa : Int32} {mm : Nat → Int32} {T : ST} {sd : Int32} {G : AH} {D : LD} (hAsk : AskC E D) (hD : WFD D) (hm0 : LwR mm D) (hB : Bd T) {n st : Nat} (hst : st ≤ 1) (hn : n ≤ 400) (hQ : ∀ (a nn : Nat → Int32) (ba en at_ dp io hm_ we sh so : Int32), MoR nn (adv D st T sd n).1 (adv D st T sd n).2 → Keep mm nn → Q (.inl (some (.int (nI (eqN D st T sd n))))) (gs (gs (gs G (V + 6) (aI 7 (a))) (V + 1) (aI 750 (nn))) V (mO V th hi ac tp ba en at_ fa dp io hm_ we sh so))) : ∀ (k i : Nat) (a nn : Nat → Int32) (ba en at_ dp io hm_ we sh so : Int32), n - i < k → i ≤ n → MoR nn (adv D st T sd i).1 (adv D st T sd i).2 → Keep mm nn → Wp E 58 0 0 kX8_goes Q (gs (gs (gs G (V + 6) (aI 7 (a))) (V + 1) (aI 750 (nn))) V (mO V th hi ac tp ba en at_ fa dp io hm_ we sh so)) (0, 0) 5 [.ref V, .int (nI n), .int (nI st), .int (nI (eqN D st T sd i)), .int (nI (i))] [] := by
  intro k
  induction k with
  | zero => intro i a nn ba en at_ dp io hm_ we sh so h; exact absurd h (by omega)
  | succ k ih =>
    intro i a nn ba en at_ dp io hm_ we sh so hk hi4 hRn hKn
    refine w_iload dX8_goes_5 rfl ?_
    refine w_iload_n dX8_goes_7 rfl ?_
    refine w_icmp_ge (tgt := 72) dX8_goes_8 (by decide) (fun c_8 => ?_) (fun c_8 => ?_)
    · try simp (disch := omega) only [nI_b2, Decidable.not_not, nI_ltI, nI_leI, nI_eq, ge_iff_le, gt_iff_lt, ne_eq, Nat.not_lt, Nat.not_le] at c_8
      refine w_iload_n dX8_goes_72 rfl ?_
      refine w_iret dX8_goes_73 rfl (Nat.le_of_ble_eq_true rfl) (Nat.le_of_ble_eq_true rfl) ?_
      have e : i = n := by omega
      subst e
      exact hQ a nn _ _ _ _ _ _ _ _ _ hRn hKn
    · try simp (disch := omega) only [nI_b2, Decidable.not_not, nI_ltI, nI_leI, nI_eq, ge_iff_le, gt_iff_lt, ne_eq, Nat.not_lt, Nat.not_le] at c_8
      refine ml_day hAsk hD (hm0.keep hKn) (hB.adv i) hst hRn (fun a2 n2 ba en at_ dp io hm_ we sh so h1 h2 => ?_)
      exact ih (i + 1) a2 n2 ba en at_ dp io hm_ we sh so (by omega) (by omega) h1 (hKn.tr h2)
theorem m_goes {E : EV} {V : Nat} {th hi ac tp fa : Int32} {mm : Nat → Int32} {T : ST} {sd : Int32} {G : AH} {D : LD} {ba en at_ dp io hm_ we sh so : Int32} {a : Nat → Int32} {n st : Nat} (hAsk : AskC E D) (hD : WFD D) (hm0 : LwR mm D) (hB : Bd T) (hst : st ≤ 1) (hn : n ≤ 400) (hR : MoR mm T sd) : Ci E 58 kX8_goes [.ref V, .int (nI n), .int (nI st)] (gs (gs (gs G (V + 6) (aI 7 (a))) (V + 1) (aI 750 (mm))) V (mO V th hi ac tp ba en at_ fa dp io hm_ we sh so)) (fun r G1 => r = nI (eqN D st T sd n) ∧ ∃ (a nn : Nat → Int32) (ba en at_ dp io hm_ we sh so : Int32), G1 = (gs (gs (gs G (V + 6) (aI 7 (a))) (V + 1) (aI 750 (nn))) V (mO V th hi ac tp ba en at_ fa dp io hm_ we sh so)) ∧ MoR nn (adv D st T sd n).1 (adv D st T sd n).2 ∧ Keep mm nn) := by
  refine Ct.intro rfl (by decide) [.ref V, .int (nI n), .int (nI st), .float 0, .float 0] (by simp [Value.category]) (Nat.le_of_ble_eq_true rfl) rfl ?_
  refine w_iconst (v := nI 0) dX8_goes_0 (by decide) ?_
  refine w_istore_3 dX8_goes_1 rfl ?_
  refine w_iconst (v := nI 0) dX8_goes_2 (by decide) ?_
  refine w_istore_4 dX8_goes_3 rfl ?_
  exact ml_goes hAsk hD hm0 hB hst hn (fun a nn ba en at_ dp io hm_ we sh so h1 h2 => ⟨_, rfl, rfl, a, nn, ba, en, at_, dp, io, hm_, we, sh, so, rfl, h1, h2⟩) (n + 1) 0 a mm _ _ _ _ _ _ _ _ _ (by omega) (by omega) hR Keep.rf
