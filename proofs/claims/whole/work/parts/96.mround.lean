/-! the model: round -/
theorem mx_round {E : EV} {Q : OC → AH → Prop} {V : Nat} {th hi ac tp fa : Int32} {mm a : Nat → Int32} {G : AH} {b nn : Nat → Int32} {ba en at_ dp io hm_ we sh so : Int32} {m n : Nat} {z : Value}  (hm : G.1 (V + 1) = some (aI 750 mm)) (ha8 : ∀ j, j < 350 → a j = mm j) (hK1 : Keep mm nn) (hm9 : m < 2 ^ 30) (hn9 : n ≤ 401)  (hQ : Q (.inl (some (.int (nI m)))) (gs (gs (gs G (V + 3) (aI 350 (a))) (V + 6) (aI 7 (b))) V (mO V th hi ac tp ba en at_ fa dp io hm_ we sh so))) : Wp E 59 0 0 kX8_round Q (gs (gs (gs (gs G (V + 3) (aI 350 (a))) (V + 6) (aI 7 (b))) (V + 1) (aI 750 (nn))) V (mO V th hi ac tp ba en at_ fa dp io hm_ we sh so)) (0, 0) 13 [.ref V, .int (nI m), .int (nI (n + 1)), z] [] := by
  refine w_iload_n dX8_round_13 rfl ?_
  refine w_bipush (v := nI 60) dX8_round_14 (by decide) ?_
  refine w_icmp_gt (tgt := 46) dX8_round_16 (by decide) (fun c_16 => ?_) (fun c_16 => ?_)
  · try simp (disch := omega) only [nI_ltI, nI_leI, nI_eq, ge_iff_le, gt_iff_lt, Nat.not_lt, Nat.not_le] at c_16
    refine w_aload_n dX8_round_46 rfl ?_
    refine wV0d dX8_round_47 lk_X8_155 rfl (by first | assumption | exact gs_at | (rw [gs_ne (by omega)]; (first | assumption | exact gs_at | (rw [gs_ne (by omega)]; (first | assumption | exact gs_at | (rw [gs_ne (by omega)]; (first | assumption | exact gs_at | (rw [gs_ne (by omega)]; (first | assumption | exact gs_at))))))))) rfl rfl (m_back3 (a := a) (b := b) (nn := nn) rfl hm ha8 hK1) (Nat.le_of_ble_eq_true rfl) (Nat.le_of_ble_eq_true rfl) (Nat.le_of_ble_eq_true rfl) (Nat.le_of_ble_eq_true rfl) (fun G9 h_47 => ?_)
    subst h_47
    refine w_iload_n dX8_round_50 rfl ?_
    refine w_iret dX8_round_51 rfl (Nat.le_of_ble_eq_true rfl) (Nat.le_of_ble_eq_true rfl) ?_
    exact hQ
  · try simp (disch := omega) only [nI_ltI, nI_leI, nI_eq, ge_iff_le, gt_iff_lt, Nat.not_lt, Nat.not_le] at c_16
    refine w_iload_n dX8_round_19 rfl ?_
    refine w_iconst (v := (-1)) dX8_round_20 (by decide) ?_
    refine w_icmp_ne (tgt := 46) dX8_round_21 (by decide) (fun c_21 => ?_) (fun c_21 => ?_)
    · try simp (disch := omega) only [nI_ltI, nI_leI, nI_eq, ge_iff_le, gt_iff_lt, Nat.not_lt, Nat.not_le] at c_21
      refine w_aload_n dX8_round_46 rfl ?_
      refine wV0d dX8_round_47 lk_X8_155 rfl (by first | assumption | exact gs_at | (rw [gs_ne (by omega)]; (first | assumption | exact gs_at | (rw [gs_ne (by omega)]; (first | assumption | exact gs_at | (rw [gs_ne (by omega)]; (first | assumption | exact gs_at | (rw [gs_ne (by omega)]; (first | assumption | exact gs_at))))))))) rfl rfl (m_back3 (a := a) (b := b) (nn := nn) rfl hm ha8 hK1) (Nat.le_of_ble_eq_true rfl) (Nat.le_of_ble_eq_true rfl) (Nat.le_of_ble_eq_true rfl) (Nat.le_of_ble_eq_true rfl) (fun G9 h_47 => ?_)
      subst h_47
      refine w_iload_n dX8_round_50 rfl ?_
      refine w_iret dX8_round_51 rfl (Nat.le_of_ble_eq_true rfl) (Nat.le_of_ble_eq_true rfl) ?_
      exact hQ
    · try simp (disch := omega) only [nI_ltI, nI_leI, nI_eq, ge_iff_le, gt_iff_lt, Nat.not_lt, Nat.not_le] at c_21
      exact absurd c_21 (nI_nm1 (by omega))
theorem ml_round {E : EV} {Q : OC → AH → Prop} {V : Nat} {th hi ac tp fa : Int32} {mm a : Nat → Int32} {T : ST} {sd : Int32} {G : AH} {D : LD}  (hAsk : AskC E D) (hD : WFD D) (hm0 : LwR mm D) (hB : Bd T) (hm : G.1 (V + 1) = some (aI 750 mm)) (ha8 : ∀ j, j < 350 → a j = mm j) (hR : MoR mm T sd) (hQ : ∀ (b : Nat → Int32) (ba en at_ dp io hm_ we sh so : Int32), Q (.inl (some (.int (rndV D T sd)))) (gs (gs (gs G (V + 3) (aI 350 (a))) (V + 6) (aI 7 (b))) V (mO V th hi ac tp ba en at_ fa dp io hm_ we sh so))) : ∀ (k n : Nat) (b nn : Nat → Int32) (ba en at_ dp io hm_ we sh so : Int32) (z : Value), 60 - n < k → n ≤ 60 → MoR nn (adv D 0 T sd n).1 (adv D 0 T sd n).2 → Keep mm nn → seekV (rnP D T sd) nI (60 - n) (n + 1) = rndV D T sd → Wp E 59 0 0 kX8_round Q (gs (gs (gs (gs G (V + 3) (aI 350 (a))) (V + 6) (aI 7 (b))) (V + 1) (aI 750 (nn))) V (mO V th hi ac tp ba en at_ fa dp io hm_ we sh so)) (0, 0) 13 [.ref V, .int (-1), .int (nI (n + 1)), z] [] := by
  intro k
  induction k with
  | zero => intro n b nn ba en at_ dp io hm_ we sh so z h; exact absurd h (by omega)
  | succ k ih =>
    intro n b nn ba en at_ dp io hm_ we sh so z hk hn9 hRn hKn hv
    have hBn : Bd (adv D 0 T sd n).1 := hB.adv _
    refine w_iload_n dX8_round_13 rfl ?_
    refine w_bipush (v := nI 60) dX8_round_14 (by decide) ?_
    refine w_icmp_gt (tgt := 46) dX8_round_16 (by decide) (fun c_16 => ?_) (fun c_16 => ?_)
    · try simp (disch := omega) only [nI_ltI, nI_leI, nI_eq, ge_iff_le, gt_iff_lt, Nat.not_lt, Nat.not_le] at c_16
      refine w_aload_n dX8_round_46 rfl ?_
      refine wV0d dX8_round_47 lk_X8_155 rfl (by first | assumption | exact gs_at | (rw [gs_ne (by omega)]; (first | assumption | exact gs_at | (rw [gs_ne (by omega)]; (first | assumption | exact gs_at | (rw [gs_ne (by omega)]; (first | assumption | exact gs_at | (rw [gs_ne (by omega)]; (first | assumption | exact gs_at))))))))) rfl rfl (m_back3 (a := a) (b := b) (nn := nn) rfl hm ha8 hKn) (Nat.le_of_ble_eq_true rfl) (Nat.le_of_ble_eq_true rfl) (Nat.le_of_ble_eq_true rfl) (Nat.le_of_ble_eq_true rfl) (fun G9 h_47 => ?_)
      subst h_47
      refine w_iload_n dX8_round_50 rfl ?_
      refine w_iret dX8_round_51 rfl (Nat.le_of_ble_eq_true rfl) (Nat.le_of_ble_eq_true rfl) ?_
      have e : n = 60 := by omega
      subst e
      have h9 := hQ b ba en at_ dp io hm_ we sh so
      rw [← hv] at h9
      exact h9
    · try simp (disch := omega) only [nI_ltI, nI_leI, nI_eq, ge_iff_le, gt_iff_lt, Nat.not_lt, Nat.not_le] at c_16
      refine w_iload_n dX8_round_19 rfl ?_
      refine w_iconst (v := (-1)) dX8_round_20 (by decide) ?_
      refine w_icmp_ne (tgt := 46) dX8_round_21 (by decide) (fun c_21 => ?_) (fun c_21 => ?_)
      · try simp (disch := omega) only [nI_ltI, nI_leI, nI_eq, ge_iff_le, gt_iff_lt, Nat.not_lt, Nat.not_le] at c_21
        exact absurd trivial c_21
      · try simp (disch := omega) only [nI_ltI, nI_leI, nI_eq, ge_iff_le, gt_iff_lt, Nat.not_lt, Nat.not_le] at c_21
        rw [show 60 - n = (60 - (n + 1)) + 1 by omega, seekV] at hv
        refine w_aload_n dX8_round_24 rfl ?_
        refine w_iconst (v := nI 1) dX8_round_25 (by decide) ?_
        refine w_iconst (v := nI 0) dX8_round_26 (by decide) ?_
        refine wV2i dX8_round_27 lk_X8_298 rfl (by first | assumption | exact gs_at | (rw [gs_ne (by omega)]; (first | assumption | exact gs_at | (rw [gs_ne (by omega)]; (first | assumption | exact gs_at | (rw [gs_ne (by omega)]; (first | assumption | exact gs_at | (rw [gs_ne (by omega)]; (first | assumption | exact gs_at))))))))) rfl rfl (m_goes3 (a := a) (b := b) (nn := nn) rfl hAsk hD (hm0.keep hKn) hBn (st := 0) (by omega) (by decide) hRn) (Nat.le_of_ble_eq_true rfl) (Nat.le_of_ble_eq_true rfl) (Nat.le_of_ble_eq_true rfl) (Nat.le_of_ble_eq_true rfl) (fun r1 G1 h_27 => ?_)
        obtain ⟨hr1, b, n1, ba, en, at_, dp, io, hm_, we, sh, so, hG1, hR1, hK1⟩ := h_27
        subst hG1
        subst hr1
        have hR1 : MoR n1 (adv D 0 T sd (n + 1)).1 (adv D 0 T sd (n + 1)).2 := hR1
        have hBm : Bd (adv D 0 T sd (n + 1)).1 := hB.adv _
        have h01 := smN_01 (adv D 0 T sd (n + 1)).1 T (T 12 0)
        refine w_istore_3 dX8_round_30 rfl ?_
        refine w_aload_n dX8_round_31 rfl ?_
        refine wV0u dX8_round_32 lk_X8_305 rfl (by first | assumption | exact gs_at | (rw [gs_ne (by omega)]; (first | assumption | exact gs_at | (rw [gs_ne (by omega)]; (first | assumption | exact gs_at | (rw [gs_ne (by omega)]; (first | assumption | exact gs_at | (rw [gs_ne (by omega)]; (first | assumption | exact gs_at))))))))) rfl rfl (m_areThere (T0 := T) (s0 := sd) (aa := a) (m0 := mm) gs_at ((gs_ne (by omega)).trans gs_at) hR1 hBm ((gs_ne (by omega)).trans ((gs_ne (by omega)).trans ((gs_ne (by omega)).trans gs_at))) ha8 hR hB) (Nat.le_of_ble_eq_true rfl) (Nat.le_of_ble_eq_true rfl) (Nat.le_of_ble_eq_true rfl) (Nat.le_of_ble_eq_true rfl) ?_
        rw [adv_0]
        refine w_ifN_eq (tgt := 40) dX8_round_35 (by decide) (fun c_35 => ?_) (fun c_35 => ?_)
        · try simp (disch := omega) only [nI_ltI, nI_leI, nI_eq, ge_iff_le, gt_iff_lt, Nat.not_lt, Nat.not_le] at c_35
          first | refine w_iinc_2 dX8_round_40 (nI_inc _) rfl ?_ | refine w_iinc_2 dX8_round_40 rfl rfl ?_
          refine w_goto (tgt := 13) dX8_round_43 (by decide) ?_
          first
            | (rw [if_pos (show rnP D T sd (n + 1) from h01.resolve_left (fun h => c_35 (by rw [h])))] at hv; refine mx_round hm ha8 (hKn.tr hK1) (by omega) (by omega) ?_; rw [hv]; exact hQ _ _ _ _ _ _ _ _ _ _)
            | (rw [if_pos (show rnP D T sd (n + 1) from h01.resolve_left c_35)] at hv; refine mx_round hm ha8 (hKn.tr hK1) (by omega) (by omega) ?_; rw [hv]; exact hQ _ _ _ _ _ _ _ _ _ _)
            | (rw [if_neg (show ¬ rnP D T sd (n + 1) from fun h => by rw [h] at c_35; exact absurd c_35 (by decide))] at hv; exact ih (n + 1) b n1 _ _ _ _ _ _ _ _ _ _ (by omega) (by omega) hR1 (hKn.tr hK1) hv)
        · try simp (disch := omega) only [nI_ltI, nI_leI, nI_eq, ge_iff_le, gt_iff_lt, Nat.not_lt, Nat.not_le] at c_35
          refine w_iload_n dX8_round_38 rfl ?_
          refine w_istore_1 dX8_round_39 rfl ?_
          first | refine w_iinc_2 dX8_round_40 (nI_inc _) rfl ?_ | refine w_iinc_2 dX8_round_40 rfl rfl ?_
          refine w_goto (tgt := 13) dX8_round_43 (by decide) ?_
          first
            | (rw [if_pos (show rnP D T sd (n + 1) from h01.resolve_left (fun h => c_35 (by rw [h])))] at hv; refine mx_round hm ha8 (hKn.tr hK1) (by omega) (by omega) ?_; rw [hv]; exact hQ _ _ _ _ _ _ _ _ _ _)
            | (rw [if_pos (show rnP D T sd (n + 1) from h01.resolve_left c_35)] at hv; refine mx_round hm ha8 (hKn.tr hK1) (by omega) (by omega) ?_; rw [hv]; exact hQ _ _ _ _ _ _ _ _ _ _)
            | (rw [if_neg (show ¬ rnP D T sd (n + 1) from fun h => by rw [h] at c_35; exact absurd c_35 (by decide))] at hv; exact ih (n + 1) b n1 _ _ _ _ _ _ _ _ _ _ (by omega) (by omega) hR1 (hKn.tr hK1) hv)
theorem m_round {E : EV} {V : Nat} {th hi ac tp ba en at_ fa dp io hm_ we sh so : Int32} {mm : Nat → Int32} {T : ST} {sd : Int32} {G : AH} {D : LD} (hV : G.1 V = some (mO V th hi ac tp ba en at_ fa dp io hm_ we sh so)) (hm : G.1 (V + 1) = some (aI 750 mm)) (hR : MoR mm T sd) (hB : Bd T) (hAsk : AskC E D) (hD : WFD D) (hm0 : LwR mm D) (h3 : ∃ a : Nat → Int32, G.1 (V + 3) = some (aI 350 a)) (h6 : ∃ a : Nat → Int32, G.1 (V + 6) = some (aI 7 a)) : Ci E 59 kX8_round [.ref V] G (fun r G1 => r = rndV D T sd ∧ AhP G V hi ac tp fa G1) := by
  refine Ct.intro rfl (by decide) [.ref V, .float 0, .float 0, .float 0] (by simp [Value.category]) (Nat.le_of_ble_eq_true rfl) rfl ?_
  refine w_aload_n dX8_round_0 rfl ?_
  refine w_iconst (v := nI 0) dX8_round_1 (by decide) ?_
  refine w_putf dX8_round_2 fl_X8_39 (by first | assumption | exact gs_at | (rw [gs_ne (by omega)]; (first | assumption | exact gs_at | (rw [gs_ne (by omega)]; (first | assumption | exact gs_at | (rw [gs_ne (by omega)]; (first | assumption | exact gs_at | (rw [gs_ne (by omega)]; (first | assumption | exact gs_at))))))))) (by simp) rfl rfl ?_
  refine w_aload_n dX8_round_5 rfl ?_
  refine wV0d dX8_round_6 lk_X8_145 rfl (by first | assumption | exact gs_at | (rw [gs_ne (by omega)]; (first | assumption | exact gs_at | (rw [gs_ne (by omega)]; (first | assumption | exact gs_at | (rw [gs_ne (by omega)]; (first | assumption | exact gs_at | (rw [gs_ne (by omega)]; (first | assumption | exact gs_at))))))))) rfl rfl (m_aside3 (mm := mm) rfl hm h3 h6) (Nat.le_of_ble_eq_true rfl) (Nat.le_of_ble_eq_true rfl) (Nat.le_of_ble_eq_true rfl) (Nat.le_of_ble_eq_true rfl) (fun G8 h_6 => ?_)
  obtain ⟨a, b, hG8, ha8⟩ := h_6
  subst hG8
  refine w_iconst (v := (-1)) dX8_round_9 (by decide) ?_
  refine w_istore_1 dX8_round_10 rfl ?_
  refine w_iconst (v := nI 1) dX8_round_11 (by decide) ?_
  refine w_istore_2 dX8_round_12 rfl ?_
  exact ml_round hAsk hD hm0 hB hm ha8 hR (fun b ba en at_ dp io hm_ we sh so => ⟨_, rfl, rfl, a, b, ba, en, at_, dp, io, hm_, we, sh, so, rfl⟩) 61 0 b mm _ _ _ _ _ _ _ _ _ _ (by omega) (by omega) hR Keep.rf rfl
