/-! the model: looking ahead for a day -/
theorem mx_meets {E : EV} {Q : OC → AH → Prop} {V : Nat} {th hi ac tp fa : Int32} {mm a : Nat → Int32} {G : AH} {b nn : Nat → Int32} {ba en at_ dp io hm_ we sh so : Int32} {m n : Nat} {z : Value} {i j : Nat} (hm : G.1 (V + 1) = some (aI 750 mm)) (ha8 : ∀ j, j < 350 → a j = mm j) (hK1 : Keep mm nn) (hm9 : m < 2 ^ 30) (hn9 : n ≤ 401)  (hQ : Q (.inl (some (.int (nI m)))) (gs (gs (gs G (V + 3) (aI 350 (a))) (V + 6) (aI 7 (b))) V (mO V th hi ac tp ba en at_ fa dp io hm_ we sh so))) : Wp E 59 0 0 kX8_meets Q (gs (gs (gs (gs G (V + 3) (aI 350 (a))) (V + 6) (aI 7 (b))) (V + 1) (aI 750 (nn))) V (mO V th hi ac tp ba en at_ fa dp io hm_ we sh so)) (0, 0) 52 [.ref V, .int (nI i), .int (nI j), .int (nI m), .int (nI n), z] [] := by
  refine w_iload dX8_meets_52 rfl ?_
  refine w_sipush (v := nI 400) dX8_meets_54 (by decide) ?_
  refine w_icmp_gt (tgt := 97) dX8_meets_57 (by decide) (fun c_57 => ?_) (fun c_57 => ?_)
  · try simp (disch := omega) only [nI_ltI, nI_leI, nI_eq, ge_iff_le, gt_iff_lt, Nat.not_lt, Nat.not_le] at c_57
    refine w_aload_n dX8_meets_97 rfl ?_
    refine wV0d dX8_meets_98 lk_X8_155 rfl (by first | assumption | exact gs_at | (rw [gs_ne (by omega)]; (first | assumption | exact gs_at | (rw [gs_ne (by omega)]; (first | assumption | exact gs_at | (rw [gs_ne (by omega)]; (first | assumption | exact gs_at | (rw [gs_ne (by omega)]; (first | assumption | exact gs_at))))))))) rfl rfl (m_back3 (a := a) (b := b) (nn := nn) rfl hm ha8 hK1) (Nat.le_of_ble_eq_true rfl) (Nat.le_of_ble_eq_true rfl) (Nat.le_of_ble_eq_true rfl) (Nat.le_of_ble_eq_true rfl) (fun G9 h_98 => ?_)
    subst h_98
    refine w_iload_n dX8_meets_101 rfl ?_
    refine w_iret dX8_meets_102 rfl (Nat.le_of_ble_eq_true rfl) (Nat.le_of_ble_eq_true rfl) ?_
    exact hQ
  · try simp (disch := omega) only [nI_ltI, nI_leI, nI_eq, ge_iff_le, gt_iff_lt, Nat.not_lt, Nat.not_le] at c_57
    refine w_iload_n dX8_meets_60 rfl ?_
    refine w_iconst (v := (-1)) dX8_meets_61 (by decide) ?_
    refine w_icmp_ne (tgt := 97) dX8_meets_62 (by decide) (fun c_62 => ?_) (fun c_62 => ?_)
    · try simp (disch := omega) only [nI_ltI, nI_leI, nI_eq, ge_iff_le, gt_iff_lt, Nat.not_lt, Nat.not_le] at c_62
      refine w_aload_n dX8_meets_97 rfl ?_
      refine wV0d dX8_meets_98 lk_X8_155 rfl (by first | assumption | exact gs_at | (rw [gs_ne (by omega)]; (first | assumption | exact gs_at | (rw [gs_ne (by omega)]; (first | assumption | exact gs_at | (rw [gs_ne (by omega)]; (first | assumption | exact gs_at | (rw [gs_ne (by omega)]; (first | assumption | exact gs_at))))))))) rfl rfl (m_back3 (a := a) (b := b) (nn := nn) rfl hm ha8 hK1) (Nat.le_of_ble_eq_true rfl) (Nat.le_of_ble_eq_true rfl) (Nat.le_of_ble_eq_true rfl) (Nat.le_of_ble_eq_true rfl) (fun G9 h_98 => ?_)
      subst h_98
      refine w_iload_n dX8_meets_101 rfl ?_
      refine w_iret dX8_meets_102 rfl (Nat.le_of_ble_eq_true rfl) (Nat.le_of_ble_eq_true rfl) ?_
      exact hQ
    · try simp (disch := omega) only [nI_ltI, nI_leI, nI_eq, ge_iff_le, gt_iff_lt, Nat.not_lt, Nat.not_le] at c_62
      exact absurd c_62 (nI_nm1 (by omega))
theorem ml_meets {E : EV} {Q : OC → AH → Prop} {V : Nat} {th hi ac tp fa : Int32} {mm a : Nat → Int32} {T : ST} {sd : Int32} {G : AH} {D : LD} {i j : Nat} (hAsk : AskC E D) (hD : WFD D) (hm0 : LwR mm D) (hB : Bd T) (hm : G.1 (V + 1) = some (aI 750 mm)) (ha8 : ∀ j, j < 350 → a j = mm j) (hi9 : i < 12) (hj9 : j < 12) (hQ : ∀ (b : Nat → Int32) (ba en at_ dp io hm_ we sh so : Int32), Q (.inl (some (.int (mtV D T sd i j)))) (gs (gs (gs G (V + 3) (aI 350 (a))) (V + 6) (aI 7 (b))) V (mO V th hi ac tp ba en at_ fa dp io hm_ we sh so))) : ∀ (k n : Nat) (b nn : Nat → Int32) (ba en at_ dp io hm_ we sh so : Int32) (z : Value), 401 - n < k → n ≤ 401 → MoR nn (adv D 0 T sd n).1 (adv D 0 T sd n).2 → Keep mm nn → seekV (mtP D T sd i j) nI (401 - n) n = mtV D T sd i j → Wp E 59 0 0 kX8_meets Q (gs (gs (gs (gs G (V + 3) (aI 350 (a))) (V + 6) (aI 7 (b))) (V + 1) (aI 750 (nn))) V (mO V th hi ac tp ba en at_ fa dp io hm_ we sh so)) (0, 0) 52 [.ref V, .int (nI i), .int (nI j), .int (-1), .int (nI n), z] [] := by
  intro k
  induction k with
  | zero => intro n b nn ba en at_ dp io hm_ we sh so z h; exact absurd h (by omega)
  | succ k ih =>
    intro n b nn ba en at_ dp io hm_ we sh so z hk hn9 hRn hKn hv
    have hBn : Bd (adv D 0 T sd n).1 := hB.adv _
    have q1 := hBn.2.2.1 i; have q2 := hBn.2.2.1 j
    refine w_iload dX8_meets_52 rfl ?_
    refine w_sipush (v := nI 400) dX8_meets_54 (by decide) ?_
    refine w_icmp_gt (tgt := 97) dX8_meets_57 (by decide) (fun c_57 => ?_) (fun c_57 => ?_)
    · try simp (disch := omega) only [nI_ltI, nI_leI, nI_eq, ge_iff_le, gt_iff_lt, Nat.not_lt, Nat.not_le] at c_57
      refine w_aload_n dX8_meets_97 rfl ?_
      refine wV0d dX8_meets_98 lk_X8_155 rfl (by first | assumption | exact gs_at | (rw [gs_ne (by omega)]; (first | assumption | exact gs_at | (rw [gs_ne (by omega)]; (first | assumption | exact gs_at | (rw [gs_ne (by omega)]; (first | assumption | exact gs_at | (rw [gs_ne (by omega)]; (first | assumption | exact gs_at))))))))) rfl rfl (m_back3 (a := a) (b := b) (nn := nn) rfl hm ha8 hKn) (Nat.le_of_ble_eq_true rfl) (Nat.le_of_ble_eq_true rfl) (Nat.le_of_ble_eq_true rfl) (Nat.le_of_ble_eq_true rfl) (fun G9 h_98 => ?_)
      subst h_98
      refine w_iload_n dX8_meets_101 rfl ?_
      refine w_iret dX8_meets_102 rfl (Nat.le_of_ble_eq_true rfl) (Nat.le_of_ble_eq_true rfl) ?_
      have e : n = 401 := by omega
      subst e
      have h9 := hQ b ba en at_ dp io hm_ we sh so
      rw [← hv] at h9
      exact h9
    · try simp (disch := omega) only [nI_ltI, nI_leI, nI_eq, ge_iff_le, gt_iff_lt, Nat.not_lt, Nat.not_le] at c_57
      refine w_iload_n dX8_meets_60 rfl ?_
      refine w_iconst (v := (-1)) dX8_meets_61 (by decide) ?_
      refine w_icmp_ne (tgt := 97) dX8_meets_62 (by decide) (fun c_62 => ?_) (fun c_62 => ?_)
      · try simp (disch := omega) only [nI_ltI, nI_leI, nI_eq, ge_iff_le, gt_iff_lt, Nat.not_lt, Nat.not_le] at c_62
        exact absurd trivial c_62
      · try simp (disch := omega) only [nI_ltI, nI_leI, nI_eq, ge_iff_le, gt_iff_lt, Nat.not_lt, Nat.not_le] at c_62
        rw [show 401 - n = (401 - (n + 1)) + 1 by omega, seekV] at hv
        refine w_aload_n dX8_meets_65 rfl ?_
        refine w_iload_n dX8_meets_66 rfl ?_
        refine w_iconst (v := nI 1) dX8_meets_67 (by decide) ?_
        refine wV2u dX8_meets_68 lk_X8_46 rfl (by first | assumption | exact gs_at | (rw [gs_ne (by omega)]; (first | assumption | exact gs_at | (rw [gs_ne (by omega)]; (first | assumption | exact gs_at | (rw [gs_ne (by omega)]; (first | assumption | exact gs_at | (rw [gs_ne (by omega)]; (first | assumption | exact gs_at))))))))) rfl rfl (m_of (w := 1) gs_at ((gs_ne (by omega)).trans gs_at) hRn hBn (by omega) (by decide)) (Nat.le_of_ble_eq_true rfl) (Nat.le_of_ble_eq_true rfl) (Nat.le_of_ble_eq_true rfl) (Nat.le_of_ble_eq_true rfl) ?_
        refine w_aload_n dX8_meets_71 rfl ?_
        refine w_iload_n dX8_meets_72 rfl ?_
        refine w_iconst (v := nI 1) dX8_meets_73 (by decide) ?_
        refine wV2u dX8_meets_74 lk_X8_46 rfl (by first | assumption | exact gs_at | (rw [gs_ne (by omega)]; (first | assumption | exact gs_at | (rw [gs_ne (by omega)]; (first | assumption | exact gs_at | (rw [gs_ne (by omega)]; (first | assumption | exact gs_at | (rw [gs_ne (by omega)]; (first | assumption | exact gs_at))))))))) rfl rfl (m_of (w := 1) gs_at ((gs_ne (by omega)).trans gs_at) hRn hBn (by omega) (by decide)) (Nat.le_of_ble_eq_true rfl) (Nat.le_of_ble_eq_true rfl) (Nat.le_of_ble_eq_true rfl) (Nat.le_of_ble_eq_true rfl) ?_
        refine w_icmp_ne (tgt := 83) dX8_meets_77 (by decide) (fun c_77 => ?_) (fun c_77 => ?_)
        · try simp (disch := omega) only [nI_ltI, nI_leI, nI_eq, ge_iff_le, gt_iff_lt, Nat.not_lt, Nat.not_le] at c_77
          refine w_aload_n dX8_meets_83 rfl ?_
          refine w_iconst (v := nI 1) dX8_meets_84 (by decide) ?_
          refine w_iconst (v := nI 0) dX8_meets_85 (by decide) ?_
          refine wV2i dX8_meets_86 lk_X8_298 rfl (by first | assumption | exact gs_at | (rw [gs_ne (by omega)]; (first | assumption | exact gs_at | (rw [gs_ne (by omega)]; (first | assumption | exact gs_at | (rw [gs_ne (by omega)]; (first | assumption | exact gs_at | (rw [gs_ne (by omega)]; (first | assumption | exact gs_at))))))))) rfl rfl (m_goes3 (a := a) (b := b) (nn := nn) rfl hAsk hD (hm0.keep hKn) hBn (st := 0) (by omega) (by decide) hRn) (Nat.le_of_ble_eq_true rfl) (Nat.le_of_ble_eq_true rfl) (Nat.le_of_ble_eq_true rfl) (Nat.le_of_ble_eq_true rfl) (fun r1 G1 h_86 => ?_)
          obtain ⟨hr1, b, n1, ba, en, at_, dp, io, hm_, we, sh, so, hG1, hR1, hK1⟩ := h_86
          subst hG1
          subst hr1
          refine w_istore_5 dX8_meets_89 rfl ?_
          first | refine w_iinc_4 dX8_meets_91 (nI_inc _) rfl ?_ | refine w_iinc_4 dX8_meets_91 rfl rfl ?_
          refine w_goto (tgt := 52) dX8_meets_94 (by decide) ?_
          first
            | (rw [if_pos (show mtP D T sd i j n from c_77)] at hv; refine mx_meets hm ha8 (hKn.tr hK1) (by omega) (by omega) ?_; rw [hv]; exact hQ _ _ _ _ _ _ _ _ _ _)
            | (rw [if_neg (show ¬ mtP D T sd i j n from c_77)] at hv; exact ih (n + 1) b n1 _ _ _ _ _ _ _ _ _ _ (by omega) (by omega) hR1 (hKn.tr hK1) hv)
        · try simp (disch := omega) only [nI_ltI, nI_leI, nI_eq, ge_iff_le, gt_iff_lt, Nat.not_lt, Nat.not_le] at c_77
          refine w_iload dX8_meets_80 rfl ?_
          refine w_istore_3 dX8_meets_82 rfl ?_
          refine w_aload_n dX8_meets_83 rfl ?_
          refine w_iconst (v := nI 1) dX8_meets_84 (by decide) ?_
          refine w_iconst (v := nI 0) dX8_meets_85 (by decide) ?_
          refine wV2i dX8_meets_86 lk_X8_298 rfl (by first | assumption | exact gs_at | (rw [gs_ne (by omega)]; (first | assumption | exact gs_at | (rw [gs_ne (by omega)]; (first | assumption | exact gs_at | (rw [gs_ne (by omega)]; (first | assumption | exact gs_at | (rw [gs_ne (by omega)]; (first | assumption | exact gs_at))))))))) rfl rfl (m_goes3 (a := a) (b := b) (nn := nn) rfl hAsk hD (hm0.keep hKn) hBn (st := 0) (by omega) (by decide) hRn) (Nat.le_of_ble_eq_true rfl) (Nat.le_of_ble_eq_true rfl) (Nat.le_of_ble_eq_true rfl) (Nat.le_of_ble_eq_true rfl) (fun r1 G1 h_86 => ?_)
          obtain ⟨hr1, b, n1, ba, en, at_, dp, io, hm_, we, sh, so, hG1, hR1, hK1⟩ := h_86
          subst hG1
          subst hr1
          refine w_istore_5 dX8_meets_89 rfl ?_
          first | refine w_iinc_4 dX8_meets_91 (nI_inc _) rfl ?_ | refine w_iinc_4 dX8_meets_91 rfl rfl ?_
          refine w_goto (tgt := 52) dX8_meets_94 (by decide) ?_
          first
            | (rw [if_pos (show mtP D T sd i j n from c_77)] at hv; refine mx_meets hm ha8 (hKn.tr hK1) (by omega) (by omega) ?_; rw [hv]; exact hQ _ _ _ _ _ _ _ _ _ _)
            | (rw [if_neg (show ¬ mtP D T sd i j n from c_77)] at hv; exact ih (n + 1) b n1 _ _ _ _ _ _ _ _ _ _ (by omega) (by omega) hR1 (hKn.tr hK1) hv)
theorem mr_m_meets {E : EV} {Q : OC → AH → Prop} {V : Nat} {th hi ac tp ba en at_ fa dp io hm_ we sh so : Int32} {G : AH} {x y : Int32} {j : Nat} (hV : G.1 V = some (mO V th hi ac tp ba en at_ fa dp io hm_ we sh so)) (hj : 0 < j ∧ j < 4) (hQ : Q (.inl (some (.int (nI 0)))) (gs G V (mO V (nI j) hi ac tp ba en at_ fa dp io hm_ we sh so))) : Wp E 59 0 0 kX8_meets Q G (0, 0) 31 [.ref V, .int x, .int y, .float 0, .float 0, .float 0] [.int (nI j), .ref V] := by
  refine w_putf dX8_meets_31 fl_X8_39 (by first | assumption | exact gs_at | (rw [gs_ne (by omega)]; (first | assumption | exact gs_at | (rw [gs_ne (by omega)]; (first | assumption | exact gs_at | (rw [gs_ne (by omega)]; (first | assumption | exact gs_at | (rw [gs_ne (by omega)]; (first | assumption | exact gs_at))))))))) (by simp) rfl rfl ?_
  refine w_aload_n dX8_meets_34 rfl ?_
  refine w_getf dX8_meets_35 fl_X8_39 (by first | assumption | exact gs_at | (rw [gs_ne (by omega)]; (first | assumption | exact gs_at | (rw [gs_ne (by omega)]; (first | assumption | exact gs_at | (rw [gs_ne (by omega)]; (first | assumption | exact gs_at | (rw [gs_ne (by omega)]; (first | assumption | exact gs_at))))))))) rfl ?_
  refine w_ifN_le (tgt := 43) dX8_meets_38 (by decide) (fun c_38 => ?_) (fun c_38 => ?_)
  · try simp (disch := omega) only [nI_b2, Decidable.not_not, nI_ltI, nI_leI, nI_eq, ge_iff_le, gt_iff_lt, ne_eq, Nat.not_lt, Nat.not_le] at c_38
    exact absurd c_38 (by omega)
  · try simp (disch := omega) only [nI_b2, Decidable.not_not, nI_ltI, nI_leI, nI_eq, ge_iff_le, gt_iff_lt, ne_eq, Nat.not_lt, Nat.not_le] at c_38
    refine w_iconst (v := nI 0) dX8_meets_41 (by decide) ?_
    refine w_iret dX8_meets_42 rfl (Nat.le_of_ble_eq_true rfl) (Nat.le_of_ble_eq_true rfl) ?_
    exact hQ
theorem mk_m_meets {E : EV} {Q : OC → AH → Prop} {V : Nat} {th hi ac tp ba en at_ fa dp io hm_ we sh so : Int32} {mm : Nat → Int32} {T : ST} {sd : Int32} {G : AH}  {i j : Nat} {D : LD} (hi9 : i < T 12 0) (hj9 : j < T 12 0) (hAsk : AskC E D) (hD : WFD D) (hm0 : LwR mm D) (h3 : ∃ a : Nat → Int32, G.1 (V + 3) = some (aI 350 a)) (h6 : ∃ a : Nat → Int32, G.1 (V + 6) = some (aI 7 a)) (hV : G.1 V = some (mO V th hi ac tp ba en at_ fa dp io hm_ we sh so)) (hm : G.1 (V + 1) = some (aI 750 mm)) (hR : MoR mm T sd) (hB : Bd T)  (hQ : ∀ G1, AhP G V hi ac tp fa G1 → Q (.inl (some (.int ((mtV D T sd i j))))) G1) : Wp E 59 0 0 kX8_meets Q G (0, 0) 31 [.ref V, .int (nI i), .int (nI j), .float 0, .float 0, .float 0] [.int (nI 0), .ref V] := by
  obtain ⟨r0, r3, r4, r5, r6, r7, r9, r11, r12, r14, r20, r26, rL⟩ := id hR
  obtain ⟨b0, b1, b2_, b3, b4, b5, b6, b7, b8, b9, b10, b11, b12, b13, b14, b15, b16, b17, b18, b19⟩ := id hB
  have hV2 : (gs G V (mO V (nI 0) hi ac tp ba en at_ fa dp io hm_ we sh so)).1 V = some (mO V (nI 0) hi ac tp ba en at_ fa dp io hm_ we sh so) := gs_at
  have hm2 : (gs G V (mO V (nI 0) hi ac tp ba en at_ fa dp io hm_ we sh so)).1 (V + 1) = some (aI 750 mm) := (gs_ne (by omega)).trans hm
  refine w_putf dX8_meets_31 fl_X8_39 (by first | assumption | exact gs_at | (rw [gs_ne (by omega)]; (first | assumption | exact gs_at | (rw [gs_ne (by omega)]; (first | assumption | exact gs_at | (rw [gs_ne (by omega)]; (first | assumption | exact gs_at | (rw [gs_ne (by omega)]; (first | assumption | exact gs_at))))))))) (by simp) rfl rfl ?_
  refine w_aload_n dX8_meets_34 rfl ?_
  refine w_getf dX8_meets_35 fl_X8_39 (by first | assumption | exact gs_at | (rw [gs_ne (by omega)]; (first | assumption | exact gs_at | (rw [gs_ne (by omega)]; (first | assumption | exact gs_at | (rw [gs_ne (by omega)]; (first | assumption | exact gs_at | (rw [gs_ne (by omega)]; (first | assumption | exact gs_at))))))))) rfl ?_
  refine w_ifN_le (tgt := 43) dX8_meets_38 (by decide) (fun c_38 => ?_) (fun c_38 => ?_)
  · try simp (disch := omega) only [nI_b2, Decidable.not_not, nI_ltI, nI_leI, nI_eq, ge_iff_le, gt_iff_lt, ne_eq, Nat.not_lt, Nat.not_le] at c_38
    refine w_aload_n dX8_meets_43 rfl ?_
    refine wV0d dX8_meets_44 lk_X8_145 rfl (by first | assumption | exact gs_at | (rw [gs_ne (by omega)]; (first | assumption | exact gs_at | (rw [gs_ne (by omega)]; (first | assumption | exact gs_at | (rw [gs_ne (by omega)]; (first | assumption | exact gs_at | (rw [gs_ne (by omega)]; (first | assumption | exact gs_at))))))))) rfl rfl (m_aside3 (mm := mm) rfl hm h3 h6) (Nat.le_of_ble_eq_true rfl) (Nat.le_of_ble_eq_true rfl) (Nat.le_of_ble_eq_true rfl) (Nat.le_of_ble_eq_true rfl) (fun G8 h_44 => ?_)
    obtain ⟨a, b, hG8, ha8⟩ := h_44
    subst hG8
    refine w_iconst (v := (-1)) dX8_meets_47 (by decide) ?_
    refine w_istore_3 dX8_meets_48 rfl ?_
    refine w_iconst (v := nI 0) dX8_meets_49 (by decide) ?_
    refine w_istore_4 dX8_meets_50 rfl ?_
    exact ml_meets hAsk hD hm0 hB hm ha8 (by omega) (by omega) (fun b ba en at_ dp io hm_ we sh so => hQ _ ⟨a, b, ba, en, at_, dp, io, hm_, we, sh, so, rfl⟩) 402 0 b mm _ _ _ _ _ _ _ _ _ _ (by omega) (by omega) hR Keep.rf rfl
  · try simp (disch := omega) only [nI_b2, Decidable.not_not, nI_ltI, nI_leI, nI_eq, ge_iff_le, gt_iff_lt, ne_eq, Nat.not_lt, Nat.not_le] at c_38
    exact absurd c_38 (by decide)
theorem m_meets {E : EV} {V : Nat} {th hi ac tp ba en at_ fa dp io hm_ we sh so : Int32} {mm : Nat → Int32} {T : ST} {sd : Int32} {G : AH}  {x y : Int32} (hV : G.1 V = some (mO V th hi ac tp ba en at_ fa dp io hm_ we sh so)) (hm : G.1 (V + 1) = some (aI 750 mm)) (hR : MoR mm T sd) (hB : Bd T)  {D : LD} (hAsk : AskC E D) (hD : WFD D) (hm0 : LwR mm D) (h3 : ∃ a : Nat → Int32, G.1 (V + 3) = some (aI 350 a)) (h6 : ∃ a : Nat → Int32, G.1 (V + 6) = some (aI 7 a)) : Ci E 59 kX8_meets [.ref V, .int x, .int y] G (fun r G1 => r = (if xk2 (okI (T 12 0) x ∧ okI (T 12 0) y) (¬ x = y) = 0 then (mtV D T sd (ix x) (ix y)) else nI 0) ∧ (xk2 (okI (T 12 0) x ∧ okI (T 12 0) y) (¬ x = y) = 0 → AhP G V hi ac tp fa G1) ∧ (¬ xk2 (okI (T 12 0) x ∧ okI (T 12 0) y) (¬ x = y) = 0 → G1 = (gs G V (mO V (nI (xk2 (okI (T 12 0) x ∧ okI (T 12 0) y) (¬ x = y))) hi ac tp ba en at_ fa dp io hm_ we sh so)))) := by
  refine Ct.intro rfl (by decide) [.ref V, .int x, .int y, .float 0, .float 0, .float 0] (by simp [Value.category]) (Nat.le_of_ble_eq_true rfl) rfl ?_
  obtain ⟨r0, r3, r4, r5, r6, r7, r9, r11, r12, r14, r20, r26, rL⟩ := id hR
  obtain ⟨b0, b1, b2_, b3, b4, b5, b6, b7, b8, b9, b10, b11, b12, b13, b14, b15, b16, b17, b18, b19⟩ := id hB
  refine w_aload_n dX8_meets_0 rfl ?_
  refine w_aload_n dX8_meets_1 rfl ?_
  refine w_iload_n dX8_meets_2 rfl ?_
  refine wV1u dX8_meets_3 lk_X8_277 rfl (by first | assumption | exact gs_at | (rw [gs_ne (by omega)]; (first | assumption | exact gs_at | (rw [gs_ne (by omega)]; (first | assumption | exact gs_at | (rw [gs_ne (by omega)]; (first | assumption | exact gs_at | (rw [gs_ne (by omega)]; (first | assumption | exact gs_at))))))))) rfl rfl (m_isItem hV hm hR hB) (Nat.le_of_ble_eq_true rfl) (Nat.le_of_ble_eq_true rfl) (Nat.le_of_ble_eq_true rfl) (Nat.le_of_ble_eq_true rfl) ?_
  refine w_ifN_eq (tgt := 17) dX8_meets_6 (by decide) (fun c_6 => ?_) (fun c_6 => ?_)
  · try simp (disch := omega) only [nI_b2, Decidable.not_not, nI_ltI, nI_leI, nI_eq, ge_iff_le, gt_iff_lt, ne_eq, Nat.not_lt, Nat.not_le] at c_6
    refine w_iconst (v := nI 1) dX8_meets_17 (by decide) ?_
    refine w_goto (tgt := 31) dX8_meets_18 (by decide) ?_
    first
      | (have kx : xk2 (okI (T 12 0) x ∧ okI (T 12 0) y) (¬ x = y) = 1 := (by rw [xk2, if_neg (fun h => c_6 h.1)]); exact mr_m_meets hV (by decide) ⟨_, rfl, by rw [kx]; rfl, fun e => absurd (kx.symm.trans e) (by decide), fun _ => by rw [kx]⟩)
      | (have kx : xk2 (okI (T 12 0) x ∧ okI (T 12 0) y) (¬ x = y) = 1 := (by rw [xk2, if_neg (fun h => c_14 h.2)]); exact mr_m_meets hV (by decide) ⟨_, rfl, by rw [kx]; rfl, fun e => absurd (kx.symm.trans e) (by decide), fun _ => by rw [kx]⟩)
      | (have kx : xk2 (okI (T 12 0) x ∧ okI (T 12 0) y) (¬ x = y) = 2 := (by rw [xk2, if_pos ⟨c_6, c_14⟩, if_neg (fun h => h c_23)]); exact mr_m_meets hV (by decide) ⟨_, rfl, by rw [kx]; rfl, fun e => absurd (kx.symm.trans e) (by decide), fun _ => by rw [kx]⟩)
      | (have kx : xk2 (okI (T 12 0) x ∧ okI (T 12 0) y) (¬ x = y) = 0 := (by rw [xk2, if_pos ⟨c_6, c_14⟩, if_pos c_23]); obtain ⟨i, hi9, e⟩ := in_N (n := T 12 0) (by omega) c_6; subst e; obtain ⟨j, hj9, e3⟩ := in_N (n := T 12 0) (by omega) c_14; subst e3; exact mk_m_meets hi9 hj9 hAsk hD hm0 h3 h6 hV hm hR hB (fun G1 hG1 => ⟨_, rfl, by rw [kx, if_pos rfl, ix_nI (show i < 2 ^ 31 by omega), ix_nI (show j < 2 ^ 31 by omega)], fun _ => hG1, fun e => absurd kx e⟩))
  · try simp (disch := omega) only [nI_b2, Decidable.not_not, nI_ltI, nI_leI, nI_eq, ge_iff_le, gt_iff_lt, ne_eq, Nat.not_lt, Nat.not_le] at c_6
    refine w_aload_n dX8_meets_9 rfl ?_
    refine w_iload_n dX8_meets_10 rfl ?_
    refine wV1u dX8_meets_11 lk_X8_277 rfl (by first | assumption | exact gs_at | (rw [gs_ne (by omega)]; (first | assumption | exact gs_at | (rw [gs_ne (by omega)]; (first | assumption | exact gs_at | (rw [gs_ne (by omega)]; (first | assumption | exact gs_at | (rw [gs_ne (by omega)]; (first | assumption | exact gs_at))))))))) rfl rfl (m_isItem hV hm hR hB) (Nat.le_of_ble_eq_true rfl) (Nat.le_of_ble_eq_true rfl) (Nat.le_of_ble_eq_true rfl) (Nat.le_of_ble_eq_true rfl) ?_
    refine w_ifN_ne (tgt := 21) dX8_meets_14 (by decide) (fun c_14 => ?_) (fun c_14 => ?_)
    · try simp (disch := omega) only [nI_b2, Decidable.not_not, nI_ltI, nI_leI, nI_eq, ge_iff_le, gt_iff_lt, ne_eq, Nat.not_lt, Nat.not_le] at c_14
      refine w_iload_n dX8_meets_21 rfl ?_
      refine w_iload_n dX8_meets_22 rfl ?_
      refine w_icmp_ne (tgt := 30) dX8_meets_23 (by decide) (fun c_23 => ?_) (fun c_23 => ?_)
      · try simp (disch := omega) only [nI_b2, Decidable.not_not, nI_ltI, nI_leI, nI_eq, ge_iff_le, gt_iff_lt, ne_eq, Nat.not_lt, Nat.not_le] at c_23
        refine w_iconst (v := nI 0) dX8_meets_30 (by decide) ?_
        first
          | (have kx : xk2 (okI (T 12 0) x ∧ okI (T 12 0) y) (¬ x = y) = 1 := (by rw [xk2, if_neg (fun h => c_6 h.1)]); exact mr_m_meets hV (by decide) ⟨_, rfl, by rw [kx]; rfl, fun e => absurd (kx.symm.trans e) (by decide), fun _ => by rw [kx]⟩)
          | (have kx : xk2 (okI (T 12 0) x ∧ okI (T 12 0) y) (¬ x = y) = 1 := (by rw [xk2, if_neg (fun h => c_14 h.2)]); exact mr_m_meets hV (by decide) ⟨_, rfl, by rw [kx]; rfl, fun e => absurd (kx.symm.trans e) (by decide), fun _ => by rw [kx]⟩)
          | (have kx : xk2 (okI (T 12 0) x ∧ okI (T 12 0) y) (¬ x = y) = 2 := (by rw [xk2, if_pos ⟨c_6, c_14⟩, if_neg (fun h => h c_23)]); exact mr_m_meets hV (by decide) ⟨_, rfl, by rw [kx]; rfl, fun e => absurd (kx.symm.trans e) (by decide), fun _ => by rw [kx]⟩)
          | (have kx : xk2 (okI (T 12 0) x ∧ okI (T 12 0) y) (¬ x = y) = 0 := (by rw [xk2, if_pos ⟨c_6, c_14⟩, if_pos c_23]); obtain ⟨i, hi9, e⟩ := in_N (n := T 12 0) (by omega) c_6; subst e; obtain ⟨j, hj9, e3⟩ := in_N (n := T 12 0) (by omega) c_14; subst e3; exact mk_m_meets hi9 hj9 hAsk hD hm0 h3 h6 hV hm hR hB (fun G1 hG1 => ⟨_, rfl, by rw [kx, if_pos rfl, ix_nI (show i < 2 ^ 31 by omega), ix_nI (show j < 2 ^ 31 by omega)], fun _ => hG1, fun e => absurd kx e⟩))
      · try simp (disch := omega) only [nI_b2, Decidable.not_not, nI_ltI, nI_leI, nI_eq, ge_iff_le, gt_iff_lt, ne_eq, Nat.not_lt, Nat.not_le] at c_23
        refine w_iconst (v := nI 2) dX8_meets_26 (by decide) ?_
        refine w_goto (tgt := 31) dX8_meets_27 (by decide) ?_
        first
          | (have kx : xk2 (okI (T 12 0) x ∧ okI (T 12 0) y) (¬ x = y) = 1 := (by rw [xk2, if_neg (fun h => c_6 h.1)]); exact mr_m_meets hV (by decide) ⟨_, rfl, by rw [kx]; rfl, fun e => absurd (kx.symm.trans e) (by decide), fun _ => by rw [kx]⟩)
          | (have kx : xk2 (okI (T 12 0) x ∧ okI (T 12 0) y) (¬ x = y) = 1 := (by rw [xk2, if_neg (fun h => c_14 h.2)]); exact mr_m_meets hV (by decide) ⟨_, rfl, by rw [kx]; rfl, fun e => absurd (kx.symm.trans e) (by decide), fun _ => by rw [kx]⟩)
          | (have kx : xk2 (okI (T 12 0) x ∧ okI (T 12 0) y) (¬ x = y) = 2 := (by rw [xk2, if_pos ⟨c_6, c_14⟩, if_neg (fun h => h c_23)]); exact mr_m_meets hV (by decide) ⟨_, rfl, by rw [kx]; rfl, fun e => absurd (kx.symm.trans e) (by decide), fun _ => by rw [kx]⟩)
          | (have kx : xk2 (okI (T 12 0) x ∧ okI (T 12 0) y) (¬ x = y) = 0 := (by rw [xk2, if_pos ⟨c_6, c_14⟩, if_pos c_23]); obtain ⟨i, hi9, e⟩ := in_N (n := T 12 0) (by omega) c_6; subst e; obtain ⟨j, hj9, e3⟩ := in_N (n := T 12 0) (by omega) c_14; subst e3; exact mk_m_meets hi9 hj9 hAsk hD hm0 h3 h6 hV hm hR hB (fun G1 hG1 => ⟨_, rfl, by rw [kx, if_pos rfl, ix_nI (show i < 2 ^ 31 by omega), ix_nI (show j < 2 ^ 31 by omega)], fun _ => hG1, fun e => absurd kx e⟩))
    · try simp (disch := omega) only [nI_b2, Decidable.not_not, nI_ltI, nI_leI, nI_eq, ge_iff_le, gt_iff_lt, ne_eq, Nat.not_lt, Nat.not_le] at c_14
      refine w_iconst (v := nI 1) dX8_meets_17 (by decide) ?_
      refine w_goto (tgt := 31) dX8_meets_18 (by decide) ?_
      first
        | (have kx : xk2 (okI (T 12 0) x ∧ okI (T 12 0) y) (¬ x = y) = 1 := (by rw [xk2, if_neg (fun h => c_6 h.1)]); exact mr_m_meets hV (by decide) ⟨_, rfl, by rw [kx]; rfl, fun e => absurd (kx.symm.trans e) (by decide), fun _ => by rw [kx]⟩)
        | (have kx : xk2 (okI (T 12 0) x ∧ okI (T 12 0) y) (¬ x = y) = 1 := (by rw [xk2, if_neg (fun h => c_14 h.2)]); exact mr_m_meets hV (by decide) ⟨_, rfl, by rw [kx]; rfl, fun e => absurd (kx.symm.trans e) (by decide), fun _ => by rw [kx]⟩)
        | (have kx : xk2 (okI (T 12 0) x ∧ okI (T 12 0) y) (¬ x = y) = 2 := (by rw [xk2, if_pos ⟨c_6, c_14⟩, if_neg (fun h => h c_23)]); exact mr_m_meets hV (by decide) ⟨_, rfl, by rw [kx]; rfl, fun e => absurd (kx.symm.trans e) (by decide), fun _ => by rw [kx]⟩)
        | (have kx : xk2 (okI (T 12 0) x ∧ okI (T 12 0) y) (¬ x = y) = 0 := (by rw [xk2, if_pos ⟨c_6, c_14⟩, if_pos c_23]); obtain ⟨i, hi9, e⟩ := in_N (n := T 12 0) (by omega) c_6; subst e; obtain ⟨j, hj9, e3⟩ := in_N (n := T 12 0) (by omega) c_14; subst e3; exact mk_m_meets hi9 hj9 hAsk hD hm0 h3 h6 hV hm hR hB (fun G1 hG1 => ⟨_, rfl, by rw [kx, if_pos rfl, ix_nI (show i < 2 ^ 31 by omega), ix_nI (show j < 2 ^ 31 by omega)], fun _ => hG1, fun e => absurd kx e⟩))
