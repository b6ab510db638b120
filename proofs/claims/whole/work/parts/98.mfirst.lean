/-! the model: first -/
theorem mx_first {E : EV} {Q : OC → AH → Prop} {V : Nat} {th hi ac tp fa : Int32} {mm a : Nat → Int32} {G : AH} {b nn : Nat → Int32} {ba en at_ dp io hm_ we sh so : Int32} {m n : Nat} {z : Value} {it : Nat} (hm : G.1 (V + 1) = some (aI 750 mm)) (ha8 : ∀ j, j < 350 → a j = mm j) (hK1 : Keep mm nn) (hm9 : m < 2 ^ 30) (hn9 : n ≤ 401)  (hQ : Q (.inl (some (.int (nI m)))) (gs (gs (gs G (V + 3) (aI 350 (a))) (V + 6) (aI 7 (b))) V (mO V th hi ac tp ba en at_ fa dp io hm_ we sh so))) : Wp E 59 0 0 kX8_first Q (gs (gs (gs (gs G (V + 3) (aI 350 (a))) (V + 6) (aI 7 (b))) (V + 1) (aI 750 (nn))) V (mO V th hi ac tp ba en at_ fa dp io hm_ we sh so)) (0, 0) 13 [.ref V, .int (nI it), .int (nI m), .int (nI n), z] [] := by
  refine w_iload_n dX8_first_13 rfl ?_
  refine w_sipush (v := nI 400) dX8_first_14 (by decide) ?_
  refine w_icmp_gt (tgt := 62) dX8_first_17 (by decide) (fun c_17 => ?_) (fun c_17 => ?_)
  · try simp (disch := omega) only [nI_ltI, nI_leI, nI_eq, ge_iff_le, gt_iff_lt, Nat.not_lt, Nat.not_le] at c_17
    refine w_aload_n dX8_first_62 rfl ?_
    refine wV0d dX8_first_63 lk_X8_155 rfl (by first | assumption | exact gs_at | (rw [gs_ne (by omega)]; (first | assumption | exact gs_at | (rw [gs_ne (by omega)]; (first | assumption | exact gs_at | (rw [gs_ne (by omega)]; (first | assumption | exact gs_at | (rw [gs_ne (by omega)]; (first | assumption | exact gs_at))))))))) rfl rfl (m_back3 (a := a) (b := b) (nn := nn) rfl hm ha8 hK1) (Nat.le_of_ble_eq_true rfl) (Nat.le_of_ble_eq_true rfl) (Nat.le_of_ble_eq_true rfl) (Nat.le_of_ble_eq_true rfl) (fun G9 h_63 => ?_)
    subst h_63
    refine w_iload_n dX8_first_66 rfl ?_
    refine w_iret dX8_first_67 rfl (Nat.le_of_ble_eq_true rfl) (Nat.le_of_ble_eq_true rfl) ?_
    exact hQ
  · try simp (disch := omega) only [nI_ltI, nI_leI, nI_eq, ge_iff_le, gt_iff_lt, Nat.not_lt, Nat.not_le] at c_17
    refine w_iload_n dX8_first_20 rfl ?_
    refine w_iconst (v := (-1)) dX8_first_21 (by decide) ?_
    refine w_icmp_ne (tgt := 62) dX8_first_22 (by decide) (fun c_22 => ?_) (fun c_22 => ?_)
    · try simp (disch := omega) only [nI_ltI, nI_leI, nI_eq, ge_iff_le, gt_iff_lt, Nat.not_lt, Nat.not_le] at c_22
      refine w_aload_n dX8_first_62 rfl ?_
      refine wV0d dX8_first_63 lk_X8_155 rfl (by first | assumption | exact gs_at | (rw [gs_ne (by omega)]; (first | assumption | exact gs_at | (rw [gs_ne (by omega)]; (first | assumption | exact gs_at | (rw [gs_ne (by omega)]; (first | assumption | exact gs_at | (rw [gs_ne (by omega)]; (first | assumption | exact gs_at))))))))) rfl rfl (m_back3 (a := a) (b := b) (nn := nn) rfl hm ha8 hK1) (Nat.le_of_ble_eq_true rfl) (Nat.le_of_ble_eq_true rfl) (Nat.le_of_ble_eq_true rfl) (Nat.le_of_ble_eq_true rfl) (fun G9 h_63 => ?_)
      subst h_63
      refine w_iload_n dX8_first_66 rfl ?_
      refine w_iret dX8_first_67 rfl (Nat.le_of_ble_eq_true rfl) (Nat.le_of_ble_eq_true rfl) ?_
      exact hQ
    · try simp (disch := omega) only [nI_ltI, nI_leI, nI_eq, ge_iff_le, gt_iff_lt, Nat.not_lt, Nat.not_le] at c_22
      exact absurd c_22 (nI_nm1 (by omega))
theorem ml_first {E : EV} {Q : OC → AH → Prop} {V : Nat} {th hi ac tp fa : Int32} {mm a : Nat → Int32} {T : ST} {sd : Int32} {G : AH} {D : LD} {it : Nat} (hAsk : AskC E D) (hD : WFD D) (hm0 : LwR mm D) (hB : Bd T) (hm : G.1 (V + 1) = some (aI 750 mm)) (ha8 : ∀ j, j < 350 → a j = mm j) (hit : it ≤ 1) (hQ : ∀ (b : Nat → Int32) (ba en at_ dp io hm_ we sh so : Int32), Q (.inl (some (.int (fstV D T sd it)))) (gs (gs (gs G (V + 3) (aI 350 (a))) (V + 6) (aI 7 (b))) V (mO V th hi ac tp ba en at_ fa dp io hm_ we sh so))) : ∀ (k n : Nat) (b nn : Nat → Int32) (ba en at_ dp io hm_ we sh so : Int32) (z : Value), 401 - n < k → n ≤ 401 → MoR nn (adv D 0 T sd n).1 (adv D 0 T sd n).2 → Keep mm nn → seekV (fsP D T sd) (fsW D T sd it) (401 - n) n = fstV D T sd it → Wp E 59 0 0 kX8_first Q (gs (gs (gs (gs G (V + 3) (aI 350 (a))) (V + 6) (aI 7 (b))) (V + 1) (aI 750 (nn))) V (mO V th hi ac tp ba en at_ fa dp io hm_ we sh so)) (0, 0) 13 [.ref V, .int (nI it), .int (-1), .int (nI n), z] [] := by
  intro k
  induction k with
  | zero => intro n b nn ba en at_ dp io hm_ we sh so z h; exact absurd h (by omega)
  | succ k ih =>
    intro n b nn ba en at_ dp io hm_ we sh so z hk hn9 hRn hKn hv
    have hBn : Bd (adv D 0 T sd n).1 := hB.adv _
    have hlt9 := bitN_12 (mis (adv D 0 T sd n).1) (show T 12 0 ≤ 12 from hB.1)
    refine w_iload_n dX8_first_13 rfl ?_
    refine w_sipush (v := nI 400) dX8_first_14 (by decide) ?_
    refine w_icmp_gt (tgt := 62) dX8_first_17 (by decide) (fun c_17 => ?_) (fun c_17 => ?_)
    · try simp (disch := omega) only [nI_ltI, nI_leI, nI_eq, ge_iff_le, gt_iff_lt, Nat.not_lt, Nat.not_le] at c_17
      refine w_aload_n dX8_first_62 rfl ?_
      refine wV0d dX8_first_63 lk_X8_155 rfl (by first | assumption | exact gs_at | (rw [gs_ne (by omega)]; (first | assumption | exact gs_at | (rw [gs_ne (by omega)]; (first | assumption | exact gs_at | (rw [gs_ne (by omega)]; (first | assumption | exact gs_at | (rw [gs_ne (by omega)]; (first | assumption | exact gs_at))))))))) rfl rfl (m_back3 (a := a) (b := b) (nn := nn) rfl hm ha8 hKn) (Nat.le_of_ble_eq_true rfl) (Nat.le_of_ble_eq_true rfl) (Nat.le_of_ble_eq_true rfl) (Nat.le_of_ble_eq_true rfl) (fun G9 h_63 => ?_)
      subst h_63
      refine w_iload_n dX8_first_66 rfl ?_
      refine w_iret dX8_first_67 rfl (Nat.le_of_ble_eq_true rfl) (Nat.le_of_ble_eq_true rfl) ?_
      have e : n = 401 := by omega
      subst e
      have h9 := hQ b ba en at_ dp io hm_ we sh so
      rw [← hv] at h9
      exact h9
    · try simp (disch := omega) only [nI_ltI, nI_leI, nI_eq, ge_iff_le, gt_iff_lt, Nat.not_lt, Nat.not_le] at c_17
      refine w_iload_n dX8_first_20 rfl ?_
      refine w_iconst (v := (-1)) dX8_first_21 (by decide) ?_
      refine w_icmp_ne (tgt := 62) dX8_first_22 (by decide) (fun c_22 => ?_) (fun c_22 => ?_)
      · try simp (disch := omega) only [nI_ltI, nI_leI, nI_eq, ge_iff_le, gt_iff_lt, Nat.not_lt, Nat.not_le] at c_22
        exact absurd trivial c_22
      · try simp (disch := omega) only [nI_ltI, nI_leI, nI_eq, ge_iff_le, gt_iff_lt, Nat.not_lt, Nat.not_le] at c_22
        rw [show 401 - n = (401 - (n + 1)) + 1 by omega, seekV] at hv
        refine w_aload_n dX8_first_25 rfl ?_
        refine wV0u dX8_first_26 lk_X8_253 rfl (by first | assumption | exact gs_at | (rw [gs_ne (by omega)]; (first | assumption | exact gs_at | (rw [gs_ne (by omega)]; (first | assumption | exact gs_at | (rw [gs_ne (by omega)]; (first | assumption | exact gs_at | (rw [gs_ne (by omega)]; (first | assumption | exact gs_at))))))))) rfl rfl (m_missingOnes gs_at ((gs_ne (by omega)).trans gs_at) hRn hBn) (Nat.le_of_ble_eq_true rfl) (Nat.le_of_ble_eq_true rfl) (Nat.le_of_ble_eq_true rfl) (Nat.le_of_ble_eq_true rfl) ?_
        rw [adv_0]
        refine w_ifN_eq (tgt := 48) dX8_first_29 (by decide) (fun c_29 => ?_) (fun c_29 => ?_)
        · try simp (disch := omega) only [nI_ltI, nI_leI, nI_eq, ge_iff_le, gt_iff_lt, Nat.not_lt, Nat.not_le] at c_29
          refine w_aload_n dX8_first_48 rfl ?_
          refine w_iconst (v := nI 1) dX8_first_49 (by decide) ?_
          refine w_iconst (v := nI 0) dX8_first_50 (by decide) ?_
          refine wV2i dX8_first_51 lk_X8_298 rfl (by first | assumption | exact gs_at | (rw [gs_ne (by omega)]; (first | assumption | exact gs_at | (rw [gs_ne (by omega)]; (first | assumption | exact gs_at | (rw [gs_ne (by omega)]; (first | assumption | exact gs_at | (rw [gs_ne (by omega)]; (first | assumption | exact gs_at))))))))) rfl rfl (m_goes3 (a := a) (b := b) (nn := nn) rfl hAsk hD (hm0.keep hKn) hBn (st := 0) (by omega) (by decide) hRn) (Nat.le_of_ble_eq_true rfl) (Nat.le_of_ble_eq_true rfl) (Nat.le_of_ble_eq_true rfl) (Nat.le_of_ble_eq_true rfl) (fun r1 G1 h_51 => ?_)
          obtain ⟨hr1, b, n1, ba, en, at_, dp, io, hm_, we, sh, so, hG1, hR1, hK1⟩ := h_51
          subst hG1
          subst hr1
          refine w_istore_4 dX8_first_54 rfl ?_
          first | refine w_iinc_3 dX8_first_56 (nI_inc _) rfl ?_ | refine w_iinc_3 dX8_first_56 rfl rfl ?_
          refine w_goto (tgt := 13) dX8_first_59 (by decide) ?_
          first
            | (rw [if_neg (show ¬ fsP D T sd n from fun h => h c_29)] at hv; exact ih (n + 1) b n1 _ _ _ _ _ _ _ _ _ _ (by omega) (by omega) hR1 (hKn.tr hK1) hv)
            | (rw [if_pos (show fsP D T sd n from c_29)] at hv; rw [fsW, if_pos c_33] at hv; refine mx_first hm ha8 (hKn.tr hK1) (by omega) (by omega) ?_; rw [hv]; exact hQ _ _ _ _ _ _ _ _ _ _)
            | (rw [if_pos (show fsP D T sd n from c_29)] at hv; rw [fsW, if_neg c_33, em] at hv; refine mx_first hm ha8 (hKn.tr hK1) (by omega) (by omega) ?_; rw [hv]; exact hQ _ _ _ _ _ _ _ _ _ _)
        · try simp (disch := omega) only [nI_ltI, nI_leI, nI_eq, ge_iff_le, gt_iff_lt, Nat.not_lt, Nat.not_le] at c_29
          refine w_iload_n dX8_first_32 rfl ?_
          refine w_ifN_eq (tgt := 46) dX8_first_33 (by decide) (fun c_33 => ?_) (fun c_33 => ?_)
          · try simp (disch := omega) only [nI_ltI, nI_leI, nI_eq, ge_iff_le, gt_iff_lt, Nat.not_lt, Nat.not_le] at c_33
            refine w_iload_n dX8_first_46 rfl ?_
            refine w_istore_2 dX8_first_47 rfl ?_
            refine w_aload_n dX8_first_48 rfl ?_
            refine w_iconst (v := nI 1) dX8_first_49 (by decide) ?_
            refine w_iconst (v := nI 0) dX8_first_50 (by decide) ?_
            refine wV2i dX8_first_51 lk_X8_298 rfl (by first | assumption | exact gs_at | (rw [gs_ne (by omega)]; (first | assumption | exact gs_at | (rw [gs_ne (by omega)]; (first | assumption | exact gs_at | (rw [gs_ne (by omega)]; (first | assumption | exact gs_at | (rw [gs_ne (by omega)]; (first | assumption | exact gs_at))))))))) rfl rfl (m_goes3 (a := a) (b := b) (nn := nn) rfl hAsk hD (hm0.keep hKn) hBn (st := 0) (by omega) (by decide) hRn) (Nat.le_of_ble_eq_true rfl) (Nat.le_of_ble_eq_true rfl) (Nat.le_of_ble_eq_true rfl) (Nat.le_of_ble_eq_true rfl) (fun r1 G1 h_51 => ?_)
            obtain ⟨hr1, b, n1, ba, en, at_, dp, io, hm_, we, sh, so, hG1, hR1, hK1⟩ := h_51
            subst hG1
            subst hr1
            refine w_istore_4 dX8_first_54 rfl ?_
            first | refine w_iinc_3 dX8_first_56 (nI_inc _) rfl ?_ | refine w_iinc_3 dX8_first_56 rfl rfl ?_
            refine w_goto (tgt := 13) dX8_first_59 (by decide) ?_
            first
              | (rw [if_neg (show ¬ fsP D T sd n from fun h => h c_29)] at hv; exact ih (n + 1) b n1 _ _ _ _ _ _ _ _ _ _ (by omega) (by omega) hR1 (hKn.tr hK1) hv)
              | (rw [if_pos (show fsP D T sd n from c_29)] at hv; rw [fsW, if_pos c_33] at hv; refine mx_first hm ha8 (hKn.tr hK1) (by omega) (by omega) ?_; rw [hv]; exact hQ _ _ _ _ _ _ _ _ _ _)
              | (rw [if_pos (show fsP D T sd n from c_29)] at hv; rw [fsW, if_neg c_33, em] at hv; refine mx_first hm ha8 (hKn.tr hK1) (by omega) (by omega) ?_; rw [hv]; exact hQ _ _ _ _ _ _ _ _ _ _)
          · try simp (disch := omega) only [nI_ltI, nI_leI, nI_eq, ge_iff_le, gt_iff_lt, Nat.not_lt, Nat.not_le] at c_33
            refine w_aload_n dX8_first_36 rfl ?_
            refine wV0u dX8_first_37 lk_X8_253 rfl (by first | assumption | exact gs_at | (rw [gs_ne (by omega)]; (first | assumption | exact gs_at | (rw [gs_ne (by omega)]; (first | assumption | exact gs_at | (rw [gs_ne (by omega)]; (first | assumption | exact gs_at | (rw [gs_ne (by omega)]; (first | assumption | exact gs_at))))))))) rfl rfl (m_missingOnes gs_at ((gs_ne (by omega)).trans gs_at) hRn hBn) (Nat.le_of_ble_eq_true rfl) (Nat.le_of_ble_eq_true rfl) (Nat.le_of_ble_eq_true rfl) (Nat.le_of_ble_eq_true rfl) ?_
            rw [adv_0]
            refine wS1u dX8_first_40 lk_X8_302 rfl (m_leastOf c_29 hlt9) (Nat.le_of_ble_eq_true rfl) (Nat.le_of_ble_eq_true rfl) (Nat.le_of_ble_eq_true rfl) (Nat.le_of_ble_eq_true rfl) ?_
            obtain ⟨m, hm12, em⟩ := low_some c_29 hlt9 12 0 rfl (Nat.mod_one _)
            have em : lowV (bitN (mis (adv D 0 T sd n).1) (T 12 0)) = nI m := em
            rw [em]
            refine w_goto (tgt := 47) dX8_first_43 (by decide) ?_
            refine w_istore_2 dX8_first_47 rfl ?_
            refine w_aload_n dX8_first_48 rfl ?_
            refine w_iconst (v := nI 1) dX8_first_49 (by decide) ?_
            refine w_iconst (v := nI 0) dX8_first_50 (by decide) ?_
            refine wV2i dX8_first_51 lk_X8_298 rfl (by first | assumption | exact gs_at | (rw [gs_ne (by omega)]; (first | assumption | exact gs_at | (rw [gs_ne (by omega)]; (first | assumption | exact gs_at | (rw [gs_ne (by omega)]; (first | assumption | exact gs_at | (rw [gs_ne (by omega)]; (first | assumption | exact gs_at))))))))) rfl rfl (m_goes3 (a := a) (b := b) (nn := nn) rfl hAsk hD (hm0.keep hKn) hBn (st := 0) (by omega) (by decide) hRn) (Nat.le_of_ble_eq_true rfl) (Nat.le_of_ble_eq_true rfl) (Nat.le_of_ble_eq_true rfl) (Nat.le_of_ble_eq_true rfl) (fun r1 G1 h_51 => ?_)
            obtain ⟨hr1, b, n1, ba, en, at_, dp, io, hm_, we, sh, so, hG1, hR1, hK1⟩ := h_51
            subst hG1
            subst hr1
            refine w_istore_4 dX8_first_54 rfl ?_
            first | refine w_iinc_3 dX8_first_56 (nI_inc _) rfl ?_ | refine w_iinc_3 dX8_first_56 rfl rfl ?_
            refine w_goto (tgt := 13) dX8_first_59 (by decide) ?_
            first
              | (rw [if_neg (show ¬ fsP D T sd n from fun h => h c_29)] at hv; exact ih (n + 1) b n1 _ _ _ _ _ _ _ _ _ _ (by omega) (by omega) hR1 (hKn.tr hK1) hv)
              | (rw [if_pos (show fsP D T sd n from c_29)] at hv; rw [fsW, if_pos c_33] at hv; refine mx_first hm ha8 (hKn.tr hK1) (by omega) (by omega) ?_; rw [hv]; exact hQ _ _ _ _ _ _ _ _ _ _)
              | (rw [if_pos (show fsP D T sd n from c_29)] at hv; rw [fsW, if_neg c_33, em] at hv; refine mx_first hm ha8 (hKn.tr hK1) (by omega) (by omega) ?_; rw [hv]; exact hQ _ _ _ _ _ _ _ _ _ _)
theorem m_first {E : EV} {V : Nat} {th hi ac tp ba en at_ fa dp io hm_ we sh so : Int32} {mm : Nat → Int32} {T : ST} {sd : Int32} {G : AH} {D : LD} {it : Nat} (hV : G.1 V = some (mO V th hi ac tp ba en at_ fa dp io hm_ we sh so)) (hm : G.1 (V + 1) = some (aI 750 mm)) (hR : MoR mm T sd) (hB : Bd T) (hAsk : AskC E D) (hD : WFD D) (hm0 : LwR mm D) (h3 : ∃ a : Nat → Int32, G.1 (V + 3) = some (aI 350 a)) (h6 : ∃ a : Nat → Int32, G.1 (V + 6) = some (aI 7 a)) (hit : it ≤ 1) : Ci E 59 kX8_first [.ref V, .int (nI it)] G (fun r G1 => r = fstV D T sd it ∧ AhP G V hi ac tp fa G1) := by
  refine Ct.intro rfl (by decide) [.ref V, .int (nI it), .float 0, .float 0, .float 0] (by simp [Value.category]) (Nat.le_of_ble_eq_true rfl) rfl ?_
  refine w_aload_n dX8_first_0 rfl ?_
  refine w_iconst (v := nI 0) dX8_first_1 (by decide) ?_
  refine w_putf dX8_first_2 fl_X8_39 (by first | assumption | exact gs_at | (rw [gs_ne (by omega)]; (first | assumption | exact gs_at | (rw [gs_ne (by omega)]; (first | assumption | exact gs_at | (rw [gs_ne (by omega)]; (first | assumption | exact gs_at | (rw [gs_ne (by omega)]; (first | assumption | exact gs_at))))))))) (by simp) rfl rfl ?_
  refine w_aload_n dX8_first_5 rfl ?_
  refine wV0d dX8_first_6 lk_X8_145 rfl (by first | assumption | exact gs_at | (rw [gs_ne (by omega)]; (first | assumption | exact gs_at | (rw [gs_ne (by omega)]; (first | assumption | exact gs_at | (rw [gs_ne (by omega)]; (first | assumption | exact gs_at | (rw [gs_ne (by omega)]; (first | assumption | exact gs_at))))))))) rfl rfl (m_aside3 (mm := mm) rfl hm h3 h6) (Nat.le_of_ble_eq_true rfl) (Nat.le_of_ble_eq_true rfl) (Nat.le_of_ble_eq_true rfl) (Nat.le_of_ble_eq_true rfl) (fun G8 h_6 => ?_)
  obtain ⟨a, b, hG8, ha8⟩ := h_6
  subst hG8
  refine w_iconst (v := (-1)) dX8_first_9 (by decide) ?_
  refine w_istore_2 dX8_first_10 rfl ?_
  refine w_iconst (v := nI 0) dX8_first_11 (by decide) ?_
  refine w_istore_3 dX8_first_12 rfl ?_
  exact ml_first hAsk hD hm0 hB hm ha8 hit (fun b ba en at_ dp io hm_ we sh so => ⟨_, rfl, rfl, a, b, ba, en, at_, dp, io, hm_, we, sh, so, rfl⟩) 402 0 b mm _ _ _ _ _ _ _ _ _ _ (by omega) (by omega) hR Keep.rf rfl
