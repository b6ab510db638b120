/-! the model: ahead -/
theorem mr_m_ahead {E : EV} {Q : OC → AH → Prop} {V : Nat} {th hi ac tp ba en at_ fa dp io hm_ we sh so : Int32} {G : AH} {x y w : Int32} {j : Nat} (hV : G.1 V = some (mO V th hi ac tp ba en at_ fa dp io hm_ we sh so)) (hj : 0 < j ∧ j < 4) (hQ : Q (.inl (some (.int (nI 0)))) (gs G V (mO V (nI j) hi ac tp ba en at_ fa dp io hm_ we sh so))) : Wp E 59 0 0 kX8_ahead Q G (0, 0) 42 [.ref V, .int x, .int y, .int w, .float 0, .float 0] [.int (nI j), .ref V] := by
  refine w_putf dX8_ahead_42 fl_X8_39 (by first | assumption | exact gs_at | (rw [gs_ne (by omega)]; (first | assumption | exact gs_at | (rw [gs_ne (by omega)]; (first | assumption | exact gs_at | (rw [gs_ne (by omega)]; (first | assumption | exact gs_at | (rw [gs_ne (by omega)]; (first | assumption | exact gs_at))))))))) (by simp) rfl rfl ?_
  refine w_aload_n dX8_ahead_45 rfl ?_
  refine w_getf dX8_ahead_46 fl_X8_39 (by first | assumption | exact gs_at | (rw [gs_ne (by omega)]; (first | assumption | exact gs_at | (rw [gs_ne (by omega)]; (first | assumption | exact gs_at | (rw [gs_ne (by omega)]; (first | assumption | exact gs_at | (rw [gs_ne (by omega)]; (first | assumption | exact gs_at))))))))) rfl ?_
  refine w_ifN_le (tgt := 54) dX8_ahead_49 (by decide) (fun c_49 => ?_) (fun c_49 => ?_)
  · try simp (disch := omega) only [nI_b2, Decidable.not_not, nI_ltI, nI_leI, nI_eq, ge_iff_le, gt_iff_lt, ne_eq, Nat.not_lt, Nat.not_le] at c_49
    exact absurd c_49 (by omega)
  · try simp (disch := omega) only [nI_b2, Decidable.not_not, nI_ltI, nI_leI, nI_eq, ge_iff_le, gt_iff_lt, ne_eq, Nat.not_lt, Nat.not_le] at c_49
    refine w_iconst (v := nI 0) dX8_ahead_52 (by decide) ?_
    refine w_iret dX8_ahead_53 rfl (Nat.le_of_ble_eq_true rfl) (Nat.le_of_ble_eq_true rfl) ?_
    exact hQ
theorem mk_m_ahead {E : EV} {Q : OC → AH → Prop} {V : Nat} {th hi ac tp ba en at_ fa dp io hm_ we sh so : Int32} {mm : Nat → Int32} {T : ST} {sd : Int32} {G : AH}  {i j w : Nat} {D : LD} (hi9 : i < T 12 0) (hj9 : j ≤ 400) (hw9 : w ≤ 2) (hAsk : AskC E D) (hD : WFD D) (hm0 : LwR mm D) (h3 : ∃ a : Nat → Int32, G.1 (V + 3) = some (aI 350 a)) (h6 : ∃ a : Nat → Int32, G.1 (V + 6) = some (aI 7 a)) (hV : G.1 V = some (mO V th hi ac tp ba en at_ fa dp io hm_ we sh so)) (hm : G.1 (V + 1) = some (aI 750 mm)) (hR : MoR mm T sd) (hB : Bd T)  (hQ : ∀ G1, AhP G V hi ac tp fa G1 → Q (.inl (some (.int (aheadV (adv D 0 T sd j).1 i (nI w))))) G1) : Wp E 59 0 0 kX8_ahead Q G (0, 0) 42 [.ref V, .int (nI i), .int (nI j), .int (nI w), .float 0, .float 0] [.int (nI 0), .ref V] := by
  obtain ⟨r0, r3, r4, r5, r6, r7, r9, r11, r12, r14, r20, r26, rL⟩ := id hR
  obtain ⟨b0, b1, b2_, b3, b4, b5, b6, b7, b8, b9, b10, b11, b12, b13, b14, b15, b16, b17, b18, b19⟩ := id hB
  have hV2 : (gs G V (mO V (nI 0) hi ac tp ba en at_ fa dp io hm_ we sh so)).1 V = some (mO V (nI 0) hi ac tp ba en at_ fa dp io hm_ we sh so) := gs_at
  have hm2 : (gs G V (mO V (nI 0) hi ac tp ba en at_ fa dp io hm_ we sh so)).1 (V + 1) = some (aI 750 mm) := (gs_ne (by omega)).trans hm
  refine w_putf dX8_ahead_42 fl_X8_39 (by first | assumption | exact gs_at | (rw [gs_ne (by omega)]; (first | assumption | exact gs_at | (rw [gs_ne (by omega)]; (first | assumption | exact gs_at | (rw [gs_ne (by omega)]; (first | assumption | exact gs_at | (rw [gs_ne (by omega)]; (first | assumption | exact gs_at))))))))) (by simp) rfl rfl ?_
  refine w_aload_n dX8_ahead_45 rfl ?_
  refine w_getf dX8_ahead_46 fl_X8_39 (by first | assumption | exact gs_at | (rw [gs_ne (by omega)]; (first | assumption | exact gs_at | (rw [gs_ne (by omega)]; (first | assumption | exact gs_at | (rw [gs_ne (by omega)]; (first | assumption | exact gs_at | (rw [gs_ne (by omega)]; (first | assumption | exact gs_at))))))))) rfl ?_
  refine w_ifN_le (tgt := 54) dX8_ahead_49 (by decide) (fun c_49 => ?_) (fun c_49 => ?_)
  · try simp (disch := omega) only [nI_b2, Decidable.not_not, nI_ltI, nI_leI, nI_eq, ge_iff_le, gt_iff_lt, ne_eq, Nat.not_lt, Nat.not_le] at c_49
    refine w_aload_n dX8_ahead_54 rfl ?_
    refine wV0d dX8_ahead_55 lk_X8_145 rfl (by first | assumption | exact gs_at | (rw [gs_ne (by omega)]; (first | assumption | exact gs_at | (rw [gs_ne (by omega)]; (first | assumption | exact gs_at | (rw [gs_ne (by omega)]; (first | assumption | exact gs_at | (rw [gs_ne (by omega)]; (first | assumption | exact gs_at))))))))) rfl rfl (m_aside3 (mm := mm) rfl hm h3 h6) (Nat.le_of_ble_eq_true rfl) (Nat.le_of_ble_eq_true rfl) (Nat.le_of_ble_eq_true rfl) (Nat.le_of_ble_eq_true rfl) (fun G8 h_55 => ?_)
    obtain ⟨a, b, hG8, ha8⟩ := h_55
    subst hG8
    refine w_aload_n dX8_ahead_58 rfl ?_
    refine w_iload_n dX8_ahead_59 rfl ?_
    refine w_iconst (v := nI 0) dX8_ahead_60 (by decide) ?_
    refine wV2i dX8_ahead_61 lk_X8_298 rfl (by first | assumption | exact gs_at | (rw [gs_ne (by omega)]; (first | assumption | exact gs_at | (rw [gs_ne (by omega)]; (first | assumption | exact gs_at | (rw [gs_ne (by omega)]; (first | assumption | exact gs_at | (rw [gs_ne (by omega)]; (first | assumption | exact gs_at))))))))) rfl rfl (m_goes3 (a := a) (b := b) (nn := mm) rfl hAsk hD hm0 hB (st := 0) (by omega) hj9 hR) (Nat.le_of_ble_eq_true rfl) (Nat.le_of_ble_eq_true rfl) (Nat.le_of_ble_eq_true rfl) (Nat.le_of_ble_eq_true rfl) (fun r1 G1 h_61 => ?_)
    obtain ⟨hr1, b, n1, ba, en, at_, dp, io, hm_, we, sh, so, hG1, hR1, hK1⟩ := h_61
    subst hG1
    subst hr1
    refine w_istore_4 dX8_ahead_64 rfl ?_
    refine w_iload_n dX8_ahead_66 rfl ?_
    refine w_ifN_ne (tgt := 79) dX8_ahead_67 (by decide) (fun c_67 => ?_) (fun c_67 => ?_)
    · try simp (disch := omega) only [nI_b2, Decidable.not_not, nI_ltI, nI_leI, nI_eq, ge_iff_le, gt_iff_lt, ne_eq, Nat.not_lt, Nat.not_le] at c_67
      refine w_iload_n dX8_ahead_79 rfl ?_
      refine w_iconst (v := nI 1) dX8_ahead_80 (by decide) ?_
      refine w_icmp_ne (tgt := 93) dX8_ahead_81 (by decide) (fun c_81 => ?_) (fun c_81 => ?_)
      · try simp (disch := omega) only [nI_b2, Decidable.not_not, nI_ltI, nI_leI, nI_eq, ge_iff_le, gt_iff_lt, ne_eq, Nat.not_lt, Nat.not_le] at c_81
        refine w_aload_n dX8_ahead_93 rfl ?_
        refine w_iload_n dX8_ahead_94 rfl ?_
        refine wV1u dX8_ahead_95 lk_X8_237 rfl (by first | assumption | exact gs_at | (rw [gs_ne (by omega)]; (first | assumption | exact gs_at | (rw [gs_ne (by omega)]; (first | assumption | exact gs_at | (rw [gs_ne (by omega)]; (first | assumption | exact gs_at | (rw [gs_ne (by omega)]; (first | assumption | exact gs_at))))))))) rfl rfl (m_isMissing gs_at ((gs_ne (by omega)).trans gs_at) hR1 (hB.adv j) (by omega)) (Nat.le_of_ble_eq_true rfl) (Nat.le_of_ble_eq_true rfl) (Nat.le_of_ble_eq_true rfl) (Nat.le_of_ble_eq_true rfl) ?_
        refine w_ifN_eq (tgt := 105) dX8_ahead_98 (by decide) (fun c_98 => ?_) (fun c_98 => ?_)
        · try simp (disch := omega) only [nI_b2, Decidable.not_not, nI_ltI, nI_leI, nI_eq, ge_iff_le, gt_iff_lt, ne_eq, Nat.not_lt, Nat.not_le] at c_98
          refine w_iconst (v := nI 0) dX8_ahead_105 (by decide) ?_
          refine w_istore_5 dX8_ahead_106 rfl ?_
          refine w_aload_n dX8_ahead_108 rfl ?_
          refine wV0d dX8_ahead_109 lk_X8_155 rfl (by first | assumption | exact gs_at | (rw [gs_ne (by omega)]; (first | assumption | exact gs_at | (rw [gs_ne (by omega)]; (first | assumption | exact gs_at | (rw [gs_ne (by omega)]; (first | assumption | exact gs_at | (rw [gs_ne (by omega)]; (first | assumption | exact gs_at))))))))) rfl rfl (m_back3 (a := a) (b := b) (nn := n1) rfl hm ha8 hK1) (Nat.le_of_ble_eq_true rfl) (Nat.le_of_ble_eq_true rfl) (Nat.le_of_ble_eq_true rfl) (Nat.le_of_ble_eq_true rfl) (fun G9 h_109 => ?_)
          subst h_109
          refine w_iload dX8_ahead_112 rfl ?_
          refine w_iret dX8_ahead_114 rfl (Nat.le_of_ble_eq_true rfl) (Nat.le_of_ble_eq_true rfl) ?_
          have hP := hQ _ ⟨a, b, ba, en, at_, dp, io, hm_, we, sh, so, rfl⟩
          have hw : w = 0 ∨ w = 1 ∨ w = 2 := by omega
          rcases hw with h | h | h <;> subst h
          all_goals first | omega | exact hP | (rw [show aheadV (adv D 0 T sd j).1 i (nI 2) = nI (b2 ((adv D 0 T sd j).1 1 i ≠ (adv D 0 T sd j).1 5 i)) from rfl, b2, if_pos c_98] at hP; exact hP) | (rw [show aheadV (adv D 0 T sd j).1 i (nI 2) = nI (b2 ((adv D 0 T sd j).1 1 i ≠ (adv D 0 T sd j).1 5 i)) from rfl, b2, if_neg (fun h => h c_98)] at hP; exact hP) | skip
        · try simp (disch := omega) only [nI_b2, Decidable.not_not, nI_ltI, nI_leI, nI_eq, ge_iff_le, gt_iff_lt, ne_eq, Nat.not_lt, Nat.not_le] at c_98
          refine w_iconst (v := nI 1) dX8_ahead_101 (by decide) ?_
          refine w_goto (tgt := 106) dX8_ahead_102 (by decide) ?_
          refine w_istore_5 dX8_ahead_106 rfl ?_
          refine w_aload_n dX8_ahead_108 rfl ?_
          refine wV0d dX8_ahead_109 lk_X8_155 rfl (by first | assumption | exact gs_at | (rw [gs_ne (by omega)]; (first | assumption | exact gs_at | (rw [gs_ne (by omega)]; (first | assumption | exact gs_at | (rw [gs_ne (by omega)]; (first | assumption | exact gs_at | (rw [gs_ne (by omega)]; (first | assumption | exact gs_at))))))))) rfl rfl (m_back3 (a := a) (b := b) (nn := n1) rfl hm ha8 hK1) (Nat.le_of_ble_eq_true rfl) (Nat.le_of_ble_eq_true rfl) (Nat.le_of_ble_eq_true rfl) (Nat.le_of_ble_eq_true rfl) (fun G9 h_109 => ?_)
          subst h_109
          refine w_iload dX8_ahead_112 rfl ?_
          refine w_iret dX8_ahead_114 rfl (Nat.le_of_ble_eq_true rfl) (Nat.le_of_ble_eq_true rfl) ?_
          have hP := hQ _ ⟨a, b, ba, en, at_, dp, io, hm_, we, sh, so, rfl⟩
          have hw : w = 0 ∨ w = 1 ∨ w = 2 := by omega
          rcases hw with h | h | h <;> subst h
          all_goals first | omega | exact hP | (rw [show aheadV (adv D 0 T sd j).1 i (nI 2) = nI (b2 ((adv D 0 T sd j).1 1 i ≠ (adv D 0 T sd j).1 5 i)) from rfl, b2, if_pos c_98] at hP; exact hP) | (rw [show aheadV (adv D 0 T sd j).1 i (nI 2) = nI (b2 ((adv D 0 T sd j).1 1 i ≠ (adv D 0 T sd j).1 5 i)) from rfl, b2, if_neg (fun h => h c_98)] at hP; exact hP) | skip
      · try simp (disch := omega) only [nI_b2, Decidable.not_not, nI_ltI, nI_leI, nI_eq, ge_iff_le, gt_iff_lt, ne_eq, Nat.not_lt, Nat.not_le] at c_81
        refine w_aload_n dX8_ahead_84 rfl ?_
        refine w_iload_n dX8_ahead_85 rfl ?_
        refine w_iconst (v := nI 2) dX8_ahead_86 (by decide) ?_
        refine wV2u dX8_ahead_87 lk_X8_46 rfl (by first | assumption | exact gs_at | (rw [gs_ne (by omega)]; (first | assumption | exact gs_at | (rw [gs_ne (by omega)]; (first | assumption | exact gs_at | (rw [gs_ne (by omega)]; (first | assumption | exact gs_at | (rw [gs_ne (by omega)]; (first | assumption | exact gs_at))))))))) rfl rfl (m_of (w := 2) gs_at ((gs_ne (by omega)).trans gs_at) hR1 (hB.adv j) (by omega) (by decide)) (Nat.le_of_ble_eq_true rfl) (Nat.le_of_ble_eq_true rfl) (Nat.le_of_ble_eq_true rfl) (Nat.le_of_ble_eq_true rfl) ?_
        refine w_goto (tgt := 106) dX8_ahead_90 (by decide) ?_
        refine w_istore_5 dX8_ahead_106 rfl ?_
        refine w_aload_n dX8_ahead_108 rfl ?_
        refine wV0d dX8_ahead_109 lk_X8_155 rfl (by first | assumption | exact gs_at | (rw [gs_ne (by omega)]; (first | assumption | exact gs_at | (rw [gs_ne (by omega)]; (first | assumption | exact gs_at | (rw [gs_ne (by omega)]; (first | assumption | exact gs_at | (rw [gs_ne (by omega)]; (first | assumption | exact gs_at))))))))) rfl rfl (m_back3 (a := a) (b := b) (nn := n1) rfl hm ha8 hK1) (Nat.le_of_ble_eq_true rfl) (Nat.le_of_ble_eq_true rfl) (Nat.le_of_ble_eq_true rfl) (Nat.le_of_ble_eq_true rfl) (fun G9 h_109 => ?_)
        subst h_109
        refine w_iload dX8_ahead_112 rfl ?_
        refine w_iret dX8_ahead_114 rfl (Nat.le_of_ble_eq_true rfl) (Nat.le_of_ble_eq_true rfl) ?_
        have hP := hQ _ ⟨a, b, ba, en, at_, dp, io, hm_, we, sh, so, rfl⟩
        have hw : w = 0 ∨ w = 1 ∨ w = 2 := by omega
        rcases hw with h | h | h <;> subst h
        all_goals first | omega | exact hP | (rw [show aheadV (adv D 0 T sd j).1 i (nI 2) = nI (b2 ((adv D 0 T sd j).1 1 i ≠ (adv D 0 T sd j).1 5 i)) from rfl, b2, if_pos c_98] at hP; exact hP) | (rw [show aheadV (adv D 0 T sd j).1 i (nI 2) = nI (b2 ((adv D 0 T sd j).1 1 i ≠ (adv D 0 T sd j).1 5 i)) from rfl, b2, if_neg (fun h => h c_98)] at hP; exact hP) | skip
    · try simp (disch := omega) only [nI_b2, Decidable.not_not, nI_ltI, nI_leI, nI_eq, ge_iff_le, gt_iff_lt, ne_eq, Nat.not_lt, Nat.not_le] at c_67
      refine w_aload_n dX8_ahead_70 rfl ?_
      refine w_iload_n dX8_ahead_71 rfl ?_
      refine w_iconst (v := nI 1) dX8_ahead_72 (by decide) ?_
      refine wV2u dX8_ahead_73 lk_X8_46 rfl (by first | assumption | exact gs_at | (rw [gs_ne (by omega)]; (first | assumption | exact gs_at | (rw [gs_ne (by omega)]; (first | assumption | exact gs_at | (rw [gs_ne (by omega)]; (first | assumption | exact gs_at | (rw [gs_ne (by omega)]; (first | assumption | exact gs_at))))))))) rfl rfl (m_of (w := 1) gs_at ((gs_ne (by omega)).trans gs_at) hR1 (hB.adv j) (by omega) (by decide)) (Nat.le_of_ble_eq_true rfl) (Nat.le_of_ble_eq_true rfl) (Nat.le_of_ble_eq_true rfl) (Nat.le_of_ble_eq_true rfl) ?_
      refine w_goto (tgt := 106) dX8_ahead_76 (by decide) ?_
      refine w_istore_5 dX8_ahead_106 rfl ?_
      refine w_aload_n dX8_ahead_108 rfl ?_
      refine wV0d dX8_ahead_109 lk_X8_155 rfl (by first | assumption | exact gs_at | (rw [gs_ne (by omega)]; (first | assumption | exact gs_at | (rw [gs_ne (by omega)]; (first | assumption | exact gs_at | (rw [gs_ne (by omega)]; (first | assumption | exact gs_at | (rw [gs_ne (by omega)]; (first | assumption | exact gs_at))))))))) rfl rfl (m_back3 (a := a) (b := b) (nn := n1) rfl hm ha8 hK1) (Nat.le_of_ble_eq_true rfl) (Nat.le_of_ble_eq_true rfl) (Nat.le_of_ble_eq_true rfl) (Nat.le_of_ble_eq_true rfl) (fun G9 h_109 => ?_)
      subst h_109
      refine w_iload dX8_ahead_112 rfl ?_
      refine w_iret dX8_ahead_114 rfl (Nat.le_of_ble_eq_true rfl) (Nat.le_of_ble_eq_true rfl) ?_
      have hP := hQ _ ⟨a, b, ba, en, at_, dp, io, hm_, we, sh, so, rfl⟩
      have hw : w = 0 ∨ w = 1 ∨ w = 2 := by omega
      rcases hw with h | h | h <;> subst h
      all_goals first | omega | exact hP | (rw [show aheadV (adv D 0 T sd j).1 i (nI 2) = nI (b2 ((adv D 0 T sd j).1 1 i ≠ (adv D 0 T sd j).1 5 i)) from rfl, b2, if_pos c_98] at hP; exact hP) | (rw [show aheadV (adv D 0 T sd j).1 i (nI 2) = nI (b2 ((adv D 0 T sd j).1 1 i ≠ (adv D 0 T sd j).1 5 i)) from rfl, b2, if_neg (fun h => h c_98)] at hP; exact hP) | skip
  · try simp (disch := omega) only [nI_b2, Decidable.not_not, nI_ltI, nI_leI, nI_eq, ge_iff_le, gt_iff_lt, ne_eq, Nat.not_lt, Nat.not_le] at c_49
    exact absurd c_49 (by decide)
theorem m_ahead {E : EV} {V : Nat} {th hi ac tp ba en at_ fa dp io hm_ we sh so : Int32} {mm : Nat → Int32} {T : ST} {sd : Int32} {G : AH}  {x y w : Int32} (hV : G.1 V = some (mO V th hi ac tp ba en at_ fa dp io hm_ we sh so)) (hm : G.1 (V + 1) = some (aI 750 mm)) (hR : MoR mm T sd) (hB : Bd T)  {D : LD} (hAsk : AskC E D) (hD : WFD D) (hm0 : LwR mm D) (h3 : ∃ a : Nat → Int32, G.1 (V + 3) = some (aI 350 a)) (h6 : ∃ a : Nat → Int32, G.1 (V + 6) = some (aI 7 a)) : Ci E 59 kX8_ahead [.ref V, .int x, .int y, .int w] G (fun r G1 => r = (if xk3 (okI (T 12 0) x) (okN 0 (nI 400) y) (okN 0 (nI 2) w) = 0 then aheadV (adv D 0 T sd (ix y)).1 (ix x) w else nI 0) ∧ (xk3 (okI (T 12 0) x) (okN 0 (nI 400) y) (okN 0 (nI 2) w) = 0 → AhP G V hi ac tp fa G1) ∧ (¬ xk3 (okI (T 12 0) x) (okN 0 (nI 400) y) (okN 0 (nI 2) w) = 0 → G1 = (gs G V (mO V (nI (xk3 (okI (T 12 0) x) (okN 0 (nI 400) y) (okN 0 (nI 2) w))) hi ac tp ba en at_ fa dp io hm_ we sh so)))) := by
  refine Ct.intro rfl (by decide) [.ref V, .int x, .int y, .int w, .float 0, .float 0] (by simp [Value.category]) (Nat.le_of_ble_eq_true rfl) rfl ?_
  obtain ⟨r0, r3, r4, r5, r6, r7, r9, r11, r12, r14, r20, r26, rL⟩ := id hR
  obtain ⟨b0, b1, b2_, b3, b4, b5, b6, b7, b8, b9, b10, b11, b12, b13, b14, b15, b16, b17, b18, b19⟩ := id hB
  refine w_aload_n dX8_ahead_0 rfl ?_
  refine w_aload_n dX8_ahead_1 rfl ?_
  refine w_iload_n dX8_ahead_2 rfl ?_
  refine wV1u dX8_ahead_3 lk_X8_277 rfl (by first | assumption | exact gs_at | (rw [gs_ne (by omega)]; (first | assumption | exact gs_at | (rw [gs_ne (by omega)]; (first | assumption | exact gs_at | (rw [gs_ne (by omega)]; (first | assumption | exact gs_at | (rw [gs_ne (by omega)]; (first | assumption | exact gs_at))))))))) rfl rfl (m_isItem hV hm hR hB) (Nat.le_of_ble_eq_true rfl) (Nat.le_of_ble_eq_true rfl) (Nat.le_of_ble_eq_true rfl) (Nat.le_of_ble_eq_true rfl) ?_
  refine w_ifN_ne (tgt := 13) dX8_ahead_6 (by decide) (fun c_6 => ?_) (fun c_6 => ?_)
  · try simp (disch := omega) only [nI_b2, Decidable.not_not, nI_ltI, nI_leI, nI_eq, ge_iff_le, gt_iff_lt, ne_eq, Nat.not_lt, Nat.not_le] at c_6
    refine w_iload_n dX8_ahead_13 rfl ?_
    refine w_iconst (v := nI 0) dX8_ahead_14 (by decide) ?_
    refine w_sipush (v := nI 400) dX8_ahead_15 (by decide) ?_
    refine wS3u dX8_ahead_18 lk_X8_42 rfl (m_isIn) (Nat.le_of_ble_eq_true rfl) (Nat.le_of_ble_eq_true rfl) (Nat.le_of_ble_eq_true rfl) (Nat.le_of_ble_eq_true rfl) ?_
    refine w_ifN_ne (tgt := 28) dX8_ahead_21 (by decide) (fun c_21 => ?_) (fun c_21 => ?_)
    · try simp (disch := omega) only [nI_b2, Decidable.not_not, nI_ltI, nI_leI, nI_eq, ge_iff_le, gt_iff_lt, ne_eq, Nat.not_lt, Nat.not_le] at c_21
      refine w_iload_n dX8_ahead_28 rfl ?_
      refine w_iconst (v := nI 0) dX8_ahead_29 (by decide) ?_
      refine w_iconst (v := nI 2) dX8_ahead_30 (by decide) ?_
      refine wS3u dX8_ahead_31 lk_X8_42 rfl (m_isIn) (Nat.le_of_ble_eq_true rfl) (Nat.le_of_ble_eq_true rfl) (Nat.le_of_ble_eq_true rfl) (Nat.le_of_ble_eq_true rfl) ?_
      refine w_ifN_ne (tgt := 41) dX8_ahead_34 (by decide) (fun c_34 => ?_) (fun c_34 => ?_)
      · try simp (disch := omega) only [nI_b2, Decidable.not_not, nI_ltI, nI_leI, nI_eq, ge_iff_le, gt_iff_lt, ne_eq, Nat.not_lt, Nat.not_le] at c_34
        refine w_iconst (v := nI 0) dX8_ahead_41 (by decide) ?_
        first
          | (have kx : xk3 (okI (T 12 0) x) (okN 0 (nI 400) y) (okN 0 (nI 2) w) = 1 := (by rw [xk3, if_neg c_6]); exact mr_m_ahead hV (by decide) ⟨_, rfl, by rw [kx]; rfl, fun e => absurd (kx.symm.trans e) (by decide), fun _ => by rw [kx]⟩)
          | (have kx : xk3 (okI (T 12 0) x) (okN 0 (nI 400) y) (okN 0 (nI 2) w) = 2 := (by rw [xk3, if_pos c_6, if_neg (show ¬ okN 0 (nI 400) y from c_21)]); exact mr_m_ahead hV (by decide) ⟨_, rfl, by rw [kx]; rfl, fun e => absurd (kx.symm.trans e) (by decide), fun _ => by rw [kx]⟩)
          | (have kx : xk3 (okI (T 12 0) x) (okN 0 (nI 400) y) (okN 0 (nI 2) w) = 3 := (by rw [xk3, if_pos c_6, if_pos (show okN 0 (nI 400) y from c_21), if_neg (show ¬ okN 0 (nI 2) w from c_34)]); exact mr_m_ahead hV (by decide) ⟨_, rfl, by rw [kx]; rfl, fun e => absurd (kx.symm.trans e) (by decide), fun _ => by rw [kx]⟩)
          | (have kx : xk3 (okI (T 12 0) x) (okN 0 (nI 400) y) (okN 0 (nI 2) w) = 0 := (by rw [xk3, if_pos c_6, if_pos (show okN 0 (nI 400) y from c_21), if_pos (show okN 0 (nI 2) w from c_34)]); obtain ⟨i, hi9, e⟩ := in_N (n := T 12 0) (by omega) c_6; subst e; obtain ⟨j, hj8, hj9, ej⟩ := in_L (a := 0) (n := 400) (by omega) (by omega) c_21; subst ej; obtain ⟨w, hw8, hw9, ew⟩ := in_L (a := 0) (n := 2) (by omega) (by omega) c_34; subst ew; exact mk_m_ahead hi9 hj9 hw9 hAsk hD hm0 h3 h6 hV hm hR hB (fun G1 hG1 => ⟨_, rfl, by rw [kx, if_pos rfl, ix_nI (show i < 2 ^ 31 by omega), ix_nI (show j < 2 ^ 31 by omega)], fun _ => hG1, fun e => absurd kx e⟩))
      · try simp (disch := omega) only [nI_b2, Decidable.not_not, nI_ltI, nI_leI, nI_eq, ge_iff_le, gt_iff_lt, ne_eq, Nat.not_lt, Nat.not_le] at c_34
        refine w_iconst (v := nI 3) dX8_ahead_37 (by decide) ?_
        refine w_goto (tgt := 42) dX8_ahead_38 (by decide) ?_
        first
          | (have kx : xk3 (okI (T 12 0) x) (okN 0 (nI 400) y) (okN 0 (nI 2) w) = 1 := (by rw [xk3, if_neg c_6]); exact mr_m_ahead hV (by decide) ⟨_, rfl, by rw [kx]; rfl, fun e => absurd (kx.symm.trans e) (by decide), fun _ => by rw [kx]⟩)
          | (have kx : xk3 (okI (T 12 0) x) (okN 0 (nI 400) y) (okN 0 (nI 2) w) = 2 := (by rw [xk3, if_pos c_6, if_neg (show ¬ okN 0 (nI 400) y from c_21)]); exact mr_m_ahead hV (by decide) ⟨_, rfl, by rw [kx]; rfl, fun e => absurd (kx.symm.trans e) (by decide), fun _ => by rw [kx]⟩)
          | (have kx : xk3 (okI (T 12 0) x) (okN 0 (nI 400) y) (okN 0 (nI 2) w) = 3 := (by rw [xk3, if_pos c_6, if_pos (show okN 0 (nI 400) y from c_21), if_neg (show ¬ okN 0 (nI 2) w from c_34)]); exact mr_m_ahead hV (by decide) ⟨_, rfl, by rw [kx]; rfl, fun e => absurd (kx.symm.trans e) (by decide), fun _ => by rw [kx]⟩)
          | (have kx : xk3 (okI (T 12 0) x) (okN 0 (nI 400) y) (okN 0 (nI 2) w) = 0 := (by rw [xk3, if_pos c_6, if_pos (show okN 0 (nI 400) y from c_21), if_pos (show okN 0 (nI 2) w from c_34)]); obtain ⟨i, hi9, e⟩ := in_N (n := T 12 0) (by omega) c_6; subst e; obtain ⟨j, hj8, hj9, ej⟩ := in_L (a := 0) (n := 400) (by omega) (by omega) c_21; subst ej; obtain ⟨w, hw8, hw9, ew⟩ := in_L (a := 0) (n := 2) (by omega) (by omega) c_34; subst ew; exact mk_m_ahead hi9 hj9 hw9 hAsk hD hm0 h3 h6 hV hm hR hB (fun G1 hG1 => ⟨_, rfl, by rw [kx, if_pos rfl, ix_nI (show i < 2 ^ 31 by omega), ix_nI (show j < 2 ^ 31 by omega)], fun _ => hG1, fun e => absurd kx e⟩))
    · try simp (disch := omega) only [nI_b2, Decidable.not_not, nI_ltI, nI_leI, nI_eq, ge_iff_le, gt_iff_lt, ne_eq, Nat.not_lt, Nat.not_le] at c_21
      refine w_iconst (v := nI 2) dX8_ahead_24 (by decide) ?_
      refine w_goto (tgt := 42) dX8_ahead_25 (by decide) ?_
      first
        | (have kx : xk3 (okI (T 12 0) x) (okN 0 (nI 400) y) (okN 0 (nI 2) w) = 1 := (by rw [xk3, if_neg c_6]); exact mr_m_ahead hV (by decide) ⟨_, rfl, by rw [kx]; rfl, fun e => absurd (kx.symm.trans e) (by decide), fun _ => by rw [kx]⟩)
        | (have kx : xk3 (okI (T 12 0) x) (okN 0 (nI 400) y) (okN 0 (nI 2) w) = 2 := (by rw [xk3, if_pos c_6, if_neg (show ¬ okN 0 (nI 400) y from c_21)]); exact mr_m_ahead hV (by decide) ⟨_, rfl, by rw [kx]; rfl, fun e => absurd (kx.symm.trans e) (by decide), fun _ => by rw [kx]⟩)
        | (have kx : xk3 (okI (T 12 0) x) (okN 0 (nI 400) y) (okN 0 (nI 2) w) = 3 := (by rw [xk3, if_pos c_6, if_pos (show okN 0 (nI 400) y from c_21), if_neg (show ¬ okN 0 (nI 2) w from c_34)]); exact mr_m_ahead hV (by decide) ⟨_, rfl, by rw [kx]; rfl, fun e => absurd (kx.symm.trans e) (by decide), fun _ => by rw [kx]⟩)
        | (have kx : xk3 (okI (T 12 0) x) (okN 0 (nI 400) y) (okN 0 (nI 2) w) = 0 := (by rw [xk3, if_pos c_6, if_pos (show okN 0 (nI 400) y from c_21), if_pos (show okN 0 (nI 2) w from c_34)]); obtain ⟨i, hi9, e⟩ := in_N (n := T 12 0) (by omega) c_6; subst e; obtain ⟨j, hj8, hj9, ej⟩ := in_L (a := 0) (n := 400) (by omega) (by omega) c_21; subst ej; obtain ⟨w, hw8, hw9, ew⟩ := in_L (a := 0) (n := 2) (by omega) (by omega) c_34; subst ew; exact mk_m_ahead hi9 hj9 hw9 hAsk hD hm0 h3 h6 hV hm hR hB (fun G1 hG1 => ⟨_, rfl, by rw [kx, if_pos rfl, ix_nI (show i < 2 ^ 31 by omega), ix_nI (show j < 2 ^ 31 by omega)], fun _ => hG1, fun e => absurd kx e⟩))
  · try simp (disch := omega) only [nI_b2, Decidable.not_not, nI_ltI, nI_leI, nI_eq, ge_iff_le, gt_iff_lt, ne_eq, Nat.not_lt, Nat.not_le] at c_6
    refine w_iconst (v := nI 1) dX8_ahead_9 (by decide) ?_
    refine w_goto (tgt := 42) dX8_ahead_10 (by decide) ?_
    first
      | (have kx : xk3 (okI (T 12 0) x) (okN 0 (nI 400) y) (okN 0 (nI 2) w) = 1 := (by rw [xk3, if_neg c_6]); exact mr_m_ahead hV (by decide) ⟨_, rfl, by rw [kx]; rfl, fun e => absurd (kx.symm.trans e) (by decide), fun _ => by rw [kx]⟩)
      | (have kx : xk3 (okI (T 12 0) x) (okN 0 (nI 400) y) (okN 0 (nI 2) w) = 2 := (by rw [xk3, if_pos c_6, if_neg (show ¬ okN 0 (nI 400) y from c_21)]); exact mr_m_ahead hV (by decide) ⟨_, rfl, by rw [kx]; rfl, fun e => absurd (kx.symm.trans e) (by decide), fun _ => by rw [kx]⟩)
      | (have kx : xk3 (okI (T 12 0) x) (okN 0 (nI 400) y) (okN 0 (nI 2) w) = 3 := (by rw [xk3, if_pos c_6, if_pos (show okN 0 (nI 400) y from c_21), if_neg (show ¬ okN 0 (nI 2) w from c_34)]); exact mr_m_ahead hV (by decide) ⟨_, rfl, by rw [kx]; rfl, fun e => absurd (kx.symm.trans e) (by decide), fun _ => by rw [kx]⟩)
      | (have kx : xk3 (okI (T 12 0) x) (okN 0 (nI 400) y) (okN 0 (nI 2) w) = 0 := (by rw [xk3, if_pos c_6, if_pos (show okN 0 (nI 400) y from c_21), if_pos (show okN 0 (nI 2) w from c_34)]); obtain ⟨i, hi9, e⟩ := in_N (n := T 12 0) (by omega) c_6; subst e; obtain ⟨j, hj8, hj9, ej⟩ := in_L (a := 0) (n := 400) (by omega) (by omega) c_21; subst ej; obtain ⟨w, hw8, hw9, ew⟩ := in_L (a := 0) (n := 2) (by omega) (by omega) c_34; subst ew; exact mk_m_ahead hi9 hj9 hw9 hAsk hD hm0 h3 h6 hV hm hR hB (fun G1 hG1 => ⟨_, rfl, by rw [kx, if_pos rfl, ix_nI (show i < 2 ^ 31 by omega), ix_nI (show j < 2 ^ 31 by omega)], fun _ => hG1, fun e => absurd kx e⟩))
