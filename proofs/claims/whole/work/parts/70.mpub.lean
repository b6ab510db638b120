/-! the model: its calls that only look -/
theorem mr_m_item {E : EV} {Q : OC → AH → Prop} {V : Nat} {th hi ac tp ba en at_ fa dp io hm_ we sh so : Int32} {G : AH} {x w : Int32} {j : Nat} (hV : G.1 V = some (mO V th hi ac tp ba en at_ fa dp io hm_ we sh so)) (hj : 0 < j ∧ j < 4) (hQ : Q (.inl (some (.int (nI 0)))) (gs G V (mO V (nI j) hi ac tp ba en at_ fa dp io hm_ we sh so))) : Wp E 4 0 0 kX8_item Q G (0, 0) 28 [.ref V, .int x, .int w] [.int (nI j), .ref V] := by
  refine w_putf dX8_item_28 fl_X8_39 (by first | assumption | exact gs_at | (rw [gs_ne (by omega)]; (first | assumption | exact gs_at | (rw [gs_ne (by omega)]; (first | assumption | exact gs_at | (rw [gs_ne (by omega)]; (first | assumption | exact gs_at | (rw [gs_ne (by omega)]; (first | assumption | exact gs_at))))))))) (by simp) rfl rfl ?_
  refine w_aload_n dX8_item_31 rfl ?_
  refine w_getf dX8_item_32 fl_X8_39 (by first | assumption | exact gs_at | (rw [gs_ne (by omega)]; (first | assumption | exact gs_at | (rw [gs_ne (by omega)]; (first | assumption | exact gs_at | (rw [gs_ne (by omega)]; (first | assumption | exact gs_at | (rw [gs_ne (by omega)]; (first | assumption | exact gs_at))))))))) rfl ?_
  refine w_ifN_le (tgt := 40) dX8_item_35 (by decide) (fun c_35 => ?_) (fun c_35 => ?_)
  · try simp (disch := omega) only [nI_b2, Decidable.not_not, nI_ltI, nI_leI, nI_eq, ge_iff_le, gt_iff_lt, ne_eq, Nat.not_lt, Nat.not_le] at c_35
    exact absurd c_35 (by omega)
  · try simp (disch := omega) only [nI_b2, Decidable.not_not, nI_ltI, nI_leI, nI_eq, ge_iff_le, gt_iff_lt, ne_eq, Nat.not_lt, Nat.not_le] at c_35
    refine w_iconst (v := nI 0) dX8_item_38 (by decide) ?_
    refine w_iret dX8_item_39 rfl (Nat.le_of_ble_eq_true rfl) (Nat.le_of_ble_eq_true rfl) ?_
    exact hQ
theorem mk_m_item {E : EV} {Q : OC → AH → Prop} {V : Nat} {th hi ac tp ba en at_ fa dp io hm_ we sh so : Int32} {mm : Nat → Int32} {T : ST} {sd : Int32} {G : AH} {i w : Nat} (hi9 : i < T 12 0) (hw9 : w ≤ 9) (hV : G.1 V = some (mO V th hi ac tp ba en at_ fa dp io hm_ we sh so)) (hm : G.1 (V + 1) = some (aI 750 mm)) (hR : MoR mm T sd) (hB : Bd T) (hQ : Q (.inl (some (.int (itemV T i (nI w))))) (gs G V (mO V (nI 0) hi ac tp ba en at_ fa dp io hm_ we sh so))) : Wp E 4 0 0 kX8_item Q G (0, 0) 28 [.ref V, .int (nI i), .int (nI w)] [.int (nI 0), .ref V] := by
  obtain ⟨r0, r3, r4, r5, r6, r7, r9, r11, r12, r14, r20, r26, rL⟩ := id hR
  obtain ⟨b0, b1, b2_, b3, b4, b5, b6, b7, b8, b9, b10, b11, b12, b13, b14, b15, b16, b17, b18, b19⟩ := id hB
  have hV2 : (gs G V (mO V (nI 0) hi ac tp ba en at_ fa dp io hm_ we sh so)).1 V = some (mO V (nI 0) hi ac tp ba en at_ fa dp io hm_ we sh so) := gs_at
  have hm2 : (gs G V (mO V (nI 0) hi ac tp ba en at_ fa dp io hm_ we sh so)).1 (V + 1) = some (aI 750 mm) := (gs_ne (by omega)).trans hm
  refine w_putf dX8_item_28 fl_X8_39 (by first | assumption | exact gs_at | (rw [gs_ne (by omega)]; (first | assumption | exact gs_at | (rw [gs_ne (by omega)]; (first | assumption | exact gs_at | (rw [gs_ne (by omega)]; (first | assumption | exact gs_at | (rw [gs_ne (by omega)]; (first | assumption | exact gs_at))))))))) (by simp) rfl rfl ?_
  refine w_aload_n dX8_item_31 rfl ?_
  refine w_getf dX8_item_32 fl_X8_39 (by first | assumption | exact gs_at | (rw [gs_ne (by omega)]; (first | assumption | exact gs_at | (rw [gs_ne (by omega)]; (first | assumption | exact gs_at | (rw [gs_ne (by omega)]; (first | assumption | exact gs_at | (rw [gs_ne (by omega)]; (first | assumption | exact gs_at))))))))) rfl ?_
  refine w_ifN_le (tgt := 40) dX8_item_35 (by decide) (fun c_35 => ?_) (fun c_35 => ?_)
  · try simp (disch := omega) only [nI_b2, Decidable.not_not, nI_ltI, nI_leI, nI_eq, ge_iff_le, gt_iff_lt, ne_eq, Nat.not_lt, Nat.not_le] at c_35
    refine w_iload_n dX8_item_40 rfl ?_
    refine w_ifN_ne (tgt := 51) dX8_item_41 (by decide) (fun c_41 => ?_) (fun c_41 => ?_)
    · try simp (disch := omega) only [nI_b2, Decidable.not_not, nI_ltI, nI_leI, nI_eq, ge_iff_le, gt_iff_lt, ne_eq, Nat.not_lt, Nat.not_le] at c_41
      refine w_iload_n dX8_item_51 rfl ?_
      refine w_iconst (v := nI 1) dX8_item_52 (by decide) ?_
      refine w_icmp_ne (tgt := 63) dX8_item_53 (by decide) (fun c_53 => ?_) (fun c_53 => ?_)
      · try simp (disch := omega) only [nI_b2, Decidable.not_not, nI_ltI, nI_leI, nI_eq, ge_iff_le, gt_iff_lt, ne_eq, Nat.not_lt, Nat.not_le] at c_53
        refine w_iload_n dX8_item_63 rfl ?_
        refine w_bipush (v := nI 7) dX8_item_64 (by decide) ?_
        refine w_icmp_ge (tgt := 76) dX8_item_66 (by decide) (fun c_66 => ?_) (fun c_66 => ?_)
        · try simp (disch := omega) only [nI_b2, Decidable.not_not, nI_ltI, nI_leI, nI_eq, ge_iff_le, gt_iff_lt, ne_eq, Nat.not_lt, Nat.not_le] at c_66
          refine w_iload_n dX8_item_76 rfl ?_
          refine w_bipush (v := nI 7) dX8_item_77 (by decide) ?_
          refine w_icmp_ne (tgt := 98) dX8_item_79 (by decide) (fun c_79 => ?_) (fun c_79 => ?_)
          · try simp (disch := omega) only [nI_b2, Decidable.not_not, nI_ltI, nI_leI, nI_eq, ge_iff_le, gt_iff_lt, ne_eq, Nat.not_lt, Nat.not_le] at c_79
            refine w_iload_n dX8_item_98 rfl ?_
            refine w_bipush (v := nI 8) dX8_item_99 (by decide) ?_
            refine w_icmp_ne (tgt := 112) dX8_item_101 (by decide) (fun c_101 => ?_) (fun c_101 => ?_)
            · try simp (disch := omega) only [nI_b2, Decidable.not_not, nI_ltI, nI_leI, nI_eq, ge_iff_le, gt_iff_lt, ne_eq, Nat.not_lt, Nat.not_le] at c_101
              refine w_aload_n dX8_item_112 rfl ?_
              refine w_iload_n dX8_item_113 rfl ?_
              refine wV1u dX8_item_114 lk_X8_234 rfl (by first | assumption | exact gs_at | (rw [gs_ne (by omega)]; (first | assumption | exact gs_at | (rw [gs_ne (by omega)]; (first | assumption | exact gs_at | (rw [gs_ne (by omega)]; (first | assumption | exact gs_at | (rw [gs_ne (by omega)]; (first | assumption | exact gs_at))))))))) rfl rfl (m_workOf hV2 hm2 hR hB (by omega)) (Nat.le_of_ble_eq_true rfl) (Nat.le_of_ble_eq_true rfl) (Nat.le_of_ble_eq_true rfl) (Nat.le_of_ble_eq_true rfl) ?_
              refine w_iret dX8_item_117 rfl (Nat.le_of_ble_eq_true rfl) (Nat.le_of_ble_eq_true rfl) ?_
              have hw : w = 0 ∨ w = 1 ∨ w = 2 ∨ w = 3 ∨ w = 4 ∨ w = 5 ∨ w = 6 ∨ w = 7 ∨ w = 8 ∨ w = 9 := by omega
              rcases hw with h | h | h | h | h | h | h | h | h | h <;> subst h
              all_goals first | omega | exact hQ | (have c9 : ¬ T 1 i ≠ T 5 i := fun h => h c_87; rw [show itemV T i (nI 7) = nI (b2 (T 1 i ≠ T 5 i)) from rfl, b2, if_neg c9] at hQ; exact hQ) | (rw [show itemV T i (nI 7) = nI (b2 (T 1 i ≠ T 5 i)) from rfl, b2, if_pos c_87] at hQ; exact hQ)
            · try simp (disch := omega) only [nI_b2, Decidable.not_not, nI_ltI, nI_leI, nI_eq, ge_iff_le, gt_iff_lt, ne_eq, Nat.not_lt, Nat.not_le] at c_101
              refine w_aload_n dX8_item_104 rfl ?_
              refine w_iload_n dX8_item_105 rfl ?_
              refine wV1u dX8_item_106 lk_X8_228 rfl (by first | assumption | exact gs_at | (rw [gs_ne (by omega)]; (first | assumption | exact gs_at | (rw [gs_ne (by omega)]; (first | assumption | exact gs_at | (rw [gs_ne (by omega)]; (first | assumption | exact gs_at | (rw [gs_ne (by omega)]; (first | assumption | exact gs_at))))))))) rfl rfl (m_worseBy hV2 hm2 hR hB (by omega)) (Nat.le_of_ble_eq_true rfl) (Nat.le_of_ble_eq_true rfl) (Nat.le_of_ble_eq_true rfl) (Nat.le_of_ble_eq_true rfl) ?_
              refine w_goto (tgt := 117) dX8_item_109 (by decide) ?_
              refine w_iret dX8_item_117 rfl (Nat.le_of_ble_eq_true rfl) (Nat.le_of_ble_eq_true rfl) ?_
              have hw : w = 0 ∨ w = 1 ∨ w = 2 ∨ w = 3 ∨ w = 4 ∨ w = 5 ∨ w = 6 ∨ w = 7 ∨ w = 8 ∨ w = 9 := by omega
              rcases hw with h | h | h | h | h | h | h | h | h | h <;> subst h
              all_goals first | omega | exact hQ | (have c9 : ¬ T 1 i ≠ T 5 i := fun h => h c_87; rw [show itemV T i (nI 7) = nI (b2 (T 1 i ≠ T 5 i)) from rfl, b2, if_neg c9] at hQ; exact hQ) | (rw [show itemV T i (nI 7) = nI (b2 (T 1 i ≠ T 5 i)) from rfl, b2, if_pos c_87] at hQ; exact hQ)
          · try simp (disch := omega) only [nI_b2, Decidable.not_not, nI_ltI, nI_leI, nI_eq, ge_iff_le, gt_iff_lt, ne_eq, Nat.not_lt, Nat.not_le] at c_79
            refine w_aload_n dX8_item_82 rfl ?_
            refine w_iload_n dX8_item_83 rfl ?_
            refine wV1u dX8_item_84 lk_X8_237 rfl (by first | assumption | exact gs_at | (rw [gs_ne (by omega)]; (first | assumption | exact gs_at | (rw [gs_ne (by omega)]; (first | assumption | exact gs_at | (rw [gs_ne (by omega)]; (first | assumption | exact gs_at | (rw [gs_ne (by omega)]; (first | assumption | exact gs_at))))))))) rfl rfl (m_isMissing hV2 hm2 hR hB (by omega)) (Nat.le_of_ble_eq_true rfl) (Nat.le_of_ble_eq_true rfl) (Nat.le_of_ble_eq_true rfl) (Nat.le_of_ble_eq_true rfl) ?_
            have := b2_ i; have := b6 i
            refine w_ifN_eq (tgt := 94) dX8_item_87 (by decide) (fun c_87 => ?_) (fun c_87 => ?_)
            · try simp (disch := omega) only [nI_b2, Decidable.not_not, nI_ltI, nI_leI, nI_eq, ge_iff_le, gt_iff_lt, ne_eq, Nat.not_lt, Nat.not_le] at c_87
              refine w_iconst (v := nI 0) dX8_item_94 (by decide) ?_
              refine w_goto (tgt := 117) dX8_item_95 (by decide) ?_
              refine w_iret dX8_item_117 rfl (Nat.le_of_ble_eq_true rfl) (Nat.le_of_ble_eq_true rfl) ?_
              have hw : w = 0 ∨ w = 1 ∨ w = 2 ∨ w = 3 ∨ w = 4 ∨ w = 5 ∨ w = 6 ∨ w = 7 ∨ w = 8 ∨ w = 9 := by omega
              rcases hw with h | h | h | h | h | h | h | h | h | h <;> subst h
              all_goals first | omega | exact hQ | (have c9 : ¬ T 1 i ≠ T 5 i := fun h => h c_87; rw [show itemV T i (nI 7) = nI (b2 (T 1 i ≠ T 5 i)) from rfl, b2, if_neg c9] at hQ; exact hQ) | (rw [show itemV T i (nI 7) = nI (b2 (T 1 i ≠ T 5 i)) from rfl, b2, if_pos c_87] at hQ; exact hQ)
            · try simp (disch := omega) only [nI_b2, Decidable.not_not, nI_ltI, nI_leI, nI_eq, ge_iff_le, gt_iff_lt, ne_eq, Nat.not_lt, Nat.not_le] at c_87
              refine w_iconst (v := nI 1) dX8_item_90 (by decide) ?_
              refine w_goto (tgt := 117) dX8_item_91 (by decide) ?_
              refine w_iret dX8_item_117 rfl (Nat.le_of_ble_eq_true rfl) (Nat.le_of_ble_eq_true rfl) ?_
              have hw : w = 0 ∨ w = 1 ∨ w = 2 ∨ w = 3 ∨ w = 4 ∨ w = 5 ∨ w = 6 ∨ w = 7 ∨ w = 8 ∨ w = 9 := by omega
              rcases hw with h | h | h | h | h | h | h | h | h | h <;> subst h
              all_goals first | omega | exact hQ | (have c9 : ¬ T 1 i ≠ T 5 i := fun h => h c_87; rw [show itemV T i (nI 7) = nI (b2 (T 1 i ≠ T 5 i)) from rfl, b2, if_neg c9] at hQ; exact hQ) | (rw [show itemV T i (nI 7) = nI (b2 (T 1 i ≠ T 5 i)) from rfl, b2, if_pos c_87] at hQ; exact hQ)
        · try simp (disch := omega) only [nI_b2, Decidable.not_not, nI_ltI, nI_leI, nI_eq, ge_iff_le, gt_iff_lt, ne_eq, Nat.not_lt, Nat.not_le] at c_66
          refine w_aload_n dX8_item_69 rfl ?_
          refine w_iload_n dX8_item_70 rfl ?_
          refine w_iload_n dX8_item_71 rfl ?_
          refine wV2u dX8_item_72 lk_X8_46 rfl (by first | assumption | exact gs_at | (rw [gs_ne (by omega)]; (first | assumption | exact gs_at | (rw [gs_ne (by omega)]; (first | assumption | exact gs_at | (rw [gs_ne (by omega)]; (first | assumption | exact gs_at | (rw [gs_ne (by omega)]; (first | assumption | exact gs_at))))))))) rfl rfl (m_of (w := w) hV2 hm2 hR hB (by omega) (by omega)) (Nat.le_of_ble_eq_true rfl) (Nat.le_of_ble_eq_true rfl) (Nat.le_of_ble_eq_true rfl) (Nat.le_of_ble_eq_true rfl) ?_
          refine w_iret dX8_item_75 rfl (Nat.le_of_ble_eq_true rfl) (Nat.le_of_ble_eq_true rfl) ?_
          have hw : w = 0 ∨ w = 1 ∨ w = 2 ∨ w = 3 ∨ w = 4 ∨ w = 5 ∨ w = 6 ∨ w = 7 ∨ w = 8 ∨ w = 9 := by omega
          rcases hw with h | h | h | h | h | h | h | h | h | h <;> subst h
          all_goals first | omega | exact hQ | (have c9 : ¬ T 1 i ≠ T 5 i := fun h => h c_87; rw [show itemV T i (nI 7) = nI (b2 (T 1 i ≠ T 5 i)) from rfl, b2, if_neg c9] at hQ; exact hQ) | (rw [show itemV T i (nI 7) = nI (b2 (T 1 i ≠ T 5 i)) from rfl, b2, if_pos c_87] at hQ; exact hQ)
      · try simp (disch := omega) only [nI_b2, Decidable.not_not, nI_ltI, nI_leI, nI_eq, ge_iff_le, gt_iff_lt, ne_eq, Nat.not_lt, Nat.not_le] at c_53
        refine w_aload_n dX8_item_56 rfl ?_
        refine w_iload_n dX8_item_57 rfl ?_
        refine w_iconst (v := nI 0) dX8_item_58 (by decide) ?_
        refine wV2u dX8_item_59 lk_X8_46 rfl (by first | assumption | exact gs_at | (rw [gs_ne (by omega)]; (first | assumption | exact gs_at | (rw [gs_ne (by omega)]; (first | assumption | exact gs_at | (rw [gs_ne (by omega)]; (first | assumption | exact gs_at | (rw [gs_ne (by omega)]; (first | assumption | exact gs_at))))))))) rfl rfl (m_of (w := 0) hV2 hm2 hR hB (by omega) (by decide)) (Nat.le_of_ble_eq_true rfl) (Nat.le_of_ble_eq_true rfl) (Nat.le_of_ble_eq_true rfl) (Nat.le_of_ble_eq_true rfl) ?_
        refine w_iret dX8_item_62 rfl (Nat.le_of_ble_eq_true rfl) (Nat.le_of_ble_eq_true rfl) ?_
        have hw : w = 0 ∨ w = 1 ∨ w = 2 ∨ w = 3 ∨ w = 4 ∨ w = 5 ∨ w = 6 ∨ w = 7 ∨ w = 8 ∨ w = 9 := by omega
        rcases hw with h | h | h | h | h | h | h | h | h | h <;> subst h
        all_goals first | omega | exact hQ | (have c9 : ¬ T 1 i ≠ T 5 i := fun h => h c_87; rw [show itemV T i (nI 7) = nI (b2 (T 1 i ≠ T 5 i)) from rfl, b2, if_neg c9] at hQ; exact hQ) | (rw [show itemV T i (nI 7) = nI (b2 (T 1 i ≠ T 5 i)) from rfl, b2, if_pos c_87] at hQ; exact hQ)
    · try simp (disch := omega) only [nI_b2, Decidable.not_not, nI_ltI, nI_leI, nI_eq, ge_iff_le, gt_iff_lt, ne_eq, Nat.not_lt, Nat.not_le] at c_41
      refine w_aload_n dX8_item_44 rfl ?_
      refine w_iload_n dX8_item_45 rfl ?_
      refine w_iconst (v := nI 1) dX8_item_46 (by decide) ?_
      refine wV2u dX8_item_47 lk_X8_46 rfl (by first | assumption | exact gs_at | (rw [gs_ne (by omega)]; (first | assumption | exact gs_at | (rw [gs_ne (by omega)]; (first | assumption | exact gs_at | (rw [gs_ne (by omega)]; (first | assumption | exact gs_at | (rw [gs_ne (by omega)]; (first | assumption | exact gs_at))))))))) rfl rfl (m_of (w := 1) hV2 hm2 hR hB (by omega) (by decide)) (Nat.le_of_ble_eq_true rfl) (Nat.le_of_ble_eq_true rfl) (Nat.le_of_ble_eq_true rfl) (Nat.le_of_ble_eq_true rfl) ?_
      refine w_iret dX8_item_50 rfl (Nat.le_of_ble_eq_true rfl) (Nat.le_of_ble_eq_true rfl) ?_
      have hw : w = 0 ∨ w = 1 ∨ w = 2 ∨ w = 3 ∨ w = 4 ∨ w = 5 ∨ w = 6 ∨ w = 7 ∨ w = 8 ∨ w = 9 := by omega
      rcases hw with h | h | h | h | h | h | h | h | h | h <;> subst h
      all_goals first | omega | exact hQ | (have c9 : ¬ T 1 i ≠ T 5 i := fun h => h c_87; rw [show itemV T i (nI 7) = nI (b2 (T 1 i ≠ T 5 i)) from rfl, b2, if_neg c9] at hQ; exact hQ) | (rw [show itemV T i (nI 7) = nI (b2 (T 1 i ≠ T 5 i)) from rfl, b2, if_pos c_87] at hQ; exact hQ)
  · try simp (disch := omega) only [nI_b2, Decidable.not_not, nI_ltI, nI_leI, nI_eq, ge_iff_le, gt_iff_lt, ne_eq, Nat.not_lt, Nat.not_le] at c_35
    exact absurd c_35 (by decide)
theorem m_item {E : EV} {V : Nat} {th hi ac tp ba en at_ fa dp io hm_ we sh so : Int32} {mm : Nat → Int32} {T : ST} {sd : Int32} {G : AH} {x w : Int32} (hV : G.1 V = some (mO V th hi ac tp ba en at_ fa dp io hm_ we sh so)) (hm : G.1 (V + 1) = some (aI 750 mm)) (hR : MoR mm T sd) (hB : Bd T)  : Cu E 4 kX8_item [.ref V, .int x, .int w] G (.int (if xk2 (okI (T 12 0) x) (okN 0 (nI 9) w) = 0 then itemV T (ix x) w else nI 0)) (gs G V (mO V (nI (xk2 (okI (T 12 0) x) (okN 0 (nI 9) w))) hi ac tp ba en at_ fa dp io hm_ we sh so)) := by
  refine Ct.intro rfl (by decide) [.ref V, .int x, .int w] (by simp [Value.category]) (Nat.le_of_ble_eq_true rfl) rfl ?_
  obtain ⟨r0, r3, r4, r5, r6, r7, r9, r11, r12, r14, r20, r26, rL⟩ := id hR
  obtain ⟨b0, b1, b2_, b3, b4, b5, b6, b7, b8, b9, b10, b11, b12, b13, b14, b15, b16, b17, b18, b19⟩ := id hB
  refine w_aload_n dX8_item_0 rfl ?_
  refine w_aload_n dX8_item_1 rfl ?_
  refine w_iload_n dX8_item_2 rfl ?_
  refine wV1u dX8_item_3 lk_X8_277 rfl (by first | assumption | exact gs_at | (rw [gs_ne (by omega)]; (first | assumption | exact gs_at | (rw [gs_ne (by omega)]; (first | assumption | exact gs_at | (rw [gs_ne (by omega)]; (first | assumption | exact gs_at | (rw [gs_ne (by omega)]; (first | assumption | exact gs_at))))))))) rfl rfl (m_isItem hV hm hR hB) (Nat.le_of_ble_eq_true rfl) (Nat.le_of_ble_eq_true rfl) (Nat.le_of_ble_eq_true rfl) (Nat.le_of_ble_eq_true rfl) ?_
  refine w_ifN_ne (tgt := 13) dX8_item_6 (by decide) (fun c_6 => ?_) (fun c_6 => ?_)
  · try simp (disch := omega) only [nI_b2, Decidable.not_not, nI_ltI, nI_leI, nI_eq, ge_iff_le, gt_iff_lt, ne_eq, Nat.not_lt, Nat.not_le] at c_6
    refine w_iload_n dX8_item_13 rfl ?_
    refine w_iconst (v := nI 0) dX8_item_14 (by decide) ?_
    refine w_bipush (v := nI 9) dX8_item_15 (by decide) ?_
    refine wS3u dX8_item_17 lk_X8_42 rfl (m_isIn) (Nat.le_of_ble_eq_true rfl) (Nat.le_of_ble_eq_true rfl) (Nat.le_of_ble_eq_true rfl) (Nat.le_of_ble_eq_true rfl) ?_
    refine w_ifN_ne (tgt := 27) dX8_item_20 (by decide) (fun c_20 => ?_) (fun c_20 => ?_)
    · try simp (disch := omega) only [nI_b2, Decidable.not_not, nI_ltI, nI_leI, nI_eq, ge_iff_le, gt_iff_lt, ne_eq, Nat.not_lt, Nat.not_le] at c_20
      refine w_iconst (v := nI 0) dX8_item_27 (by decide) ?_
      first
        | (have kx : xk2 (okI (T 12 0) x) (okN 0 (nI 9) w) = 1 := (by rw [xk2, if_neg c_6]); exact mr_m_item hV (by decide) ⟨by rw [kx]; rfl, by rw [kx]⟩)
        | (have kx : xk2 (okI (T 12 0) x) (okN 0 (nI 9) w) = 2 := (by rw [xk2, if_pos c_6, if_neg c_20]); exact mr_m_item hV (by decide) ⟨by rw [kx]; rfl, by rw [kx]⟩)
        | (have kx : xk2 (okI (T 12 0) x) (okN 0 (nI 9) w) = 0 := (by rw [xk2, if_pos c_6, if_pos c_20]); obtain ⟨i, hi9, e⟩ := in_N (n := T 12 0) (by omega) c_6; subst e; obtain ⟨w9, hw8, hw9, e2⟩ := in_L (a := 0) (n := 9) (by omega) (by omega) c_20; subst e2; exact mk_m_item hi9 hw9 hV hm hR hB ⟨by rw [kx, if_pos rfl, ix_nI (by omega)], by rw [kx]⟩)
    · try simp (disch := omega) only [nI_b2, Decidable.not_not, nI_ltI, nI_leI, nI_eq, ge_iff_le, gt_iff_lt, ne_eq, Nat.not_lt, Nat.not_le] at c_20
      refine w_iconst (v := nI 2) dX8_item_23 (by decide) ?_
      refine w_goto (tgt := 28) dX8_item_24 (by decide) ?_
      first
        | (have kx : xk2 (okI (T 12 0) x) (okN 0 (nI 9) w) = 1 := (by rw [xk2, if_neg c_6]); exact mr_m_item hV (by decide) ⟨by rw [kx]; rfl, by rw [kx]⟩)
        | (have kx : xk2 (okI (T 12 0) x) (okN 0 (nI 9) w) = 2 := (by rw [xk2, if_pos c_6, if_neg c_20]); exact mr_m_item hV (by decide) ⟨by rw [kx]; rfl, by rw [kx]⟩)
        | (have kx : xk2 (okI (T 12 0) x) (okN 0 (nI 9) w) = 0 := (by rw [xk2, if_pos c_6, if_pos c_20]); obtain ⟨i, hi9, e⟩ := in_N (n := T 12 0) (by omega) c_6; subst e; obtain ⟨w9, hw8, hw9, e2⟩ := in_L (a := 0) (n := 9) (by omega) (by omega) c_20; subst e2; exact mk_m_item hi9 hw9 hV hm hR hB ⟨by rw [kx, if_pos rfl, ix_nI (by omega)], by rw [kx]⟩)
  · try simp (disch := omega) only [nI_b2, Decidable.not_not, nI_ltI, nI_leI, nI_eq, ge_iff_le, gt_iff_lt, ne_eq, Nat.not_lt, Nat.not_le] at c_6
    refine w_iconst (v := nI 1) dX8_item_9 (by decide) ?_
    refine w_goto (tgt := 28) dX8_item_10 (by decide) ?_
    first
      | (have kx : xk2 (okI (T 12 0) x) (okN 0 (nI 9) w) = 1 := (by rw [xk2, if_neg c_6]); exact mr_m_item hV (by decide) ⟨by rw [kx]; rfl, by rw [kx]⟩)
      | (have kx : xk2 (okI (T 12 0) x) (okN 0 (nI 9) w) = 2 := (by rw [xk2, if_pos c_6, if_neg c_20]); exact mr_m_item hV (by decide) ⟨by rw [kx]; rfl, by rw [kx]⟩)
      | (have kx : xk2 (okI (T 12 0) x) (okN 0 (nI 9) w) = 0 := (by rw [xk2, if_pos c_6, if_pos c_20]); obtain ⟨i, hi9, e⟩ := in_N (n := T 12 0) (by omega) c_6; subst e; obtain ⟨w9, hw8, hw9, e2⟩ := in_L (a := 0) (n := 9) (by omega) (by omega) c_20; subst e2; exact mk_m_item hi9 hw9 hV hm hR hB ⟨by rw [kx, if_pos rfl, ix_nI (by omega)], by rw [kx]⟩)
theorem mr_m_room {E : EV} {Q : OC → AH → Prop} {V : Nat} {th hi ac tp ba en at_ fa dp io hm_ we sh so : Int32} {G : AH} {x w : Int32} {j : Nat} (hV : G.1 V = some (mO V th hi ac tp ba en at_ fa dp io hm_ we sh so)) (hj : 0 < j ∧ j < 4) (hQ : Q (.inl (some (.int (nI 0)))) (gs G V (mO V (nI j) hi ac tp ba en at_ fa dp io hm_ we sh so))) : Wp E 3 0 0 kX8_room Q G (0, 0) 26 [.ref V, .int x, .int w] [.int (nI j), .ref V] := by
  refine w_putf dX8_room_26 fl_X8_39 (by first | assumption | exact gs_at | (rw [gs_ne (by omega)]; (first | assumption | exact gs_at | (rw [gs_ne (by omega)]; (first | assumption | exact gs_at | (rw [gs_ne (by omega)]; (first | assumption | exact gs_at | (rw [gs_ne (by omega)]; (first | assumption | exact gs_at))))))))) (by simp) rfl rfl ?_
  refine w_aload_n dX8_room_29 rfl ?_
  refine w_getf dX8_room_30 fl_X8_39 (by first | assumption | exact gs_at | (rw [gs_ne (by omega)]; (first | assumption | exact gs_at | (rw [gs_ne (by omega)]; (first | assumption | exact gs_at | (rw [gs_ne (by omega)]; (first | assumption | exact gs_at | (rw [gs_ne (by omega)]; (first | assumption | exact gs_at))))))))) rfl ?_
  refine w_ifN_le (tgt := 38) dX8_room_33 (by decide) (fun c_33 => ?_) (fun c_33 => ?_)
  · try simp (disch := omega) only [nI_b2, Decidable.not_not, nI_ltI, nI_leI, nI_eq, ge_iff_le, gt_iff_lt, ne_eq, Nat.not_lt, Nat.not_le] at c_33
    exact absurd c_33 (by omega)
  · try simp (disch := omega) only [nI_b2, Decidable.not_not, nI_ltI, nI_leI, nI_eq, ge_iff_le, gt_iff_lt, ne_eq, Nat.not_lt, Nat.not_le] at c_33
    refine w_iconst (v := nI 0) dX8_room_36 (by decide) ?_
    refine w_iret dX8_room_37 rfl (Nat.le_of_ble_eq_true rfl) (Nat.le_of_ble_eq_true rfl) ?_
    exact hQ
theorem mk_m_room {E : EV} {Q : OC → AH → Prop} {V : Nat} {th hi ac tp ba en at_ fa dp io hm_ we sh so : Int32} {mm : Nat → Int32} {T : ST} {sd : Int32} {G : AH} {i w : Nat} (hi9 : i < 6) (hw9 : w ≤ 3) (hV : G.1 V = some (mO V th hi ac tp ba en at_ fa dp io hm_ we sh so)) (hm : G.1 (V + 1) = some (aI 750 mm)) (hR : MoR mm T sd) (hB : Bd T) (hQ : Q (.inl (some (.int (roomV T i (nI w))))) (gs G V (mO V (nI 0) hi ac tp ba en at_ fa dp io hm_ we sh so))) : Wp E 3 0 0 kX8_room Q G (0, 0) 26 [.ref V, .int (nI i), .int (nI w)] [.int (nI 0), .ref V] := by
  obtain ⟨r0, r3, r4, r5, r6, r7, r9, r11, r12, r14, r20, r26, rL⟩ := id hR
  obtain ⟨b0, b1, b2_, b3, b4, b5, b6, b7, b8, b9, b10, b11, b12, b13, b14, b15, b16, b17, b18, b19⟩ := id hB
  have hV2 : (gs G V (mO V (nI 0) hi ac tp ba en at_ fa dp io hm_ we sh so)).1 V = some (mO V (nI 0) hi ac tp ba en at_ fa dp io hm_ we sh so) := gs_at
  have hm2 : (gs G V (mO V (nI 0) hi ac tp ba en at_ fa dp io hm_ we sh so)).1 (V + 1) = some (aI 750 mm) := (gs_ne (by omega)).trans hm
  refine w_putf dX8_room_26 fl_X8_39 (by first | assumption | exact gs_at | (rw [gs_ne (by omega)]; (first | assumption | exact gs_at | (rw [gs_ne (by omega)]; (first | assumption | exact gs_at | (rw [gs_ne (by omega)]; (first | assumption | exact gs_at | (rw [gs_ne (by omega)]; (first | assumption | exact gs_at))))))))) (by simp) rfl rfl ?_
  refine w_aload_n dX8_room_29 rfl ?_
  refine w_getf dX8_room_30 fl_X8_39 (by first | assumption | exact gs_at | (rw [gs_ne (by omega)]; (first | assumption | exact gs_at | (rw [gs_ne (by omega)]; (first | assumption | exact gs_at | (rw [gs_ne (by omega)]; (first | assumption | exact gs_at | (rw [gs_ne (by omega)]; (first | assumption | exact gs_at))))))))) rfl ?_
  refine w_ifN_le (tgt := 38) dX8_room_33 (by decide) (fun c_33 => ?_) (fun c_33 => ?_)
  · try simp (disch := omega) only [nI_b2, Decidable.not_not, nI_ltI, nI_leI, nI_eq, ge_iff_le, gt_iff_lt, ne_eq, Nat.not_lt, Nat.not_le] at c_33
    refine w_iload_n dX8_room_38 rfl ?_
    refine w_ifN_ne (tgt := 54) dX8_room_39 (by decide) (fun c_39 => ?_) (fun c_39 => ?_)
    · try simp (disch := omega) only [nI_b2, Decidable.not_not, nI_ltI, nI_leI, nI_eq, ge_iff_le, gt_iff_lt, ne_eq, Nat.not_lt, Nat.not_le] at c_39
      refine w_iload_n dX8_room_54 rfl ?_
      refine w_iconst (v := nI 1) dX8_room_55 (by decide) ?_
      refine w_icmp_ne (tgt := 71) dX8_room_56 (by decide) (fun c_56 => ?_) (fun c_56 => ?_)
      · try simp (disch := omega) only [nI_b2, Decidable.not_not, nI_ltI, nI_leI, nI_eq, ge_iff_le, gt_iff_lt, ne_eq, Nat.not_lt, Nat.not_le] at c_56
        refine w_aload_n dX8_room_71 rfl ?_
        refine w_iload_n dX8_room_72 rfl ?_
        refine w_iload_n dX8_room_73 rfl ?_
        refine w_iconst (v := nI 2) dX8_room_74 (by decide) ?_
        refine w_icmp_ne (tgt := 82) dX8_room_75 (by decide) (fun c_75 => ?_) (fun c_75 => ?_)
        · try simp (disch := omega) only [nI_b2, Decidable.not_not, nI_ltI, nI_leI, nI_eq, ge_iff_le, gt_iff_lt, ne_eq, Nat.not_lt, Nat.not_le] at c_75
          refine w_iconst (v := nI 0) dX8_room_82 (by decide) ?_
          first | refine wV2u dX8_room_83 lk_X8_283 rfl (by first | assumption | exact gs_at | (rw [gs_ne (by omega)]; (first | assumption | exact gs_at | (rw [gs_ne (by omega)]; (first | assumption | exact gs_at | (rw [gs_ne (by omega)]; (first | assumption | exact gs_at | (rw [gs_ne (by omega)]; (first | assumption | exact gs_at))))))))) rfl rfl (m_itemsOf (w := 1) hV2 hm2 hR hB (by decide) (fun j => by have := b2_ j; omega) (by omega)) (Nat.le_of_ble_eq_true rfl) (Nat.le_of_ble_eq_true rfl) (Nat.le_of_ble_eq_true rfl) (Nat.le_of_ble_eq_true rfl) ?_ | refine wV2u dX8_room_83 lk_X8_283 rfl (by first | assumption | exact gs_at | (rw [gs_ne (by omega)]; (first | assumption | exact gs_at | (rw [gs_ne (by omega)]; (first | assumption | exact gs_at | (rw [gs_ne (by omega)]; (first | assumption | exact gs_at | (rw [gs_ne (by omega)]; (first | assumption | exact gs_at))))))))) rfl rfl (m_itemsOf (w := 0) hV2 hm2 hR hB (by decide) (fun j => by have := b1 j; omega) (by omega)) (Nat.le_of_ble_eq_true rfl) (Nat.le_of_ble_eq_true rfl) (Nat.le_of_ble_eq_true rfl) (Nat.le_of_ble_eq_true rfl) ?_
          refine w_iret dX8_room_86 rfl (Nat.le_of_ble_eq_true rfl) (Nat.le_of_ble_eq_true rfl) ?_
          have hw : w = 0 ∨ w = 1 ∨ w = 2 ∨ w = 3 := by omega
          rcases hw with h | h | h | h <;> subst h
          all_goals first | omega | exact hQ
        · try simp (disch := omega) only [nI_b2, Decidable.not_not, nI_ltI, nI_leI, nI_eq, ge_iff_le, gt_iff_lt, ne_eq, Nat.not_lt, Nat.not_le] at c_75
          refine w_iconst (v := nI 1) dX8_room_78 (by decide) ?_
          refine w_goto (tgt := 83) dX8_room_79 (by decide) ?_
          first | refine wV2u dX8_room_83 lk_X8_283 rfl (by first | assumption | exact gs_at | (rw [gs_ne (by omega)]; (first | assumption | exact gs_at | (rw [gs_ne (by omega)]; (first | assumption | exact gs_at | (rw [gs_ne (by omega)]; (first | assumption | exact gs_at | (rw [gs_ne (by omega)]; (first | assumption | exact gs_at))))))))) rfl rfl (m_itemsOf (w := 1) hV2 hm2 hR hB (by decide) (fun j => by have := b2_ j; omega) (by omega)) (Nat.le_of_ble_eq_true rfl) (Nat.le_of_ble_eq_true rfl) (Nat.le_of_ble_eq_true rfl) (Nat.le_of_ble_eq_true rfl) ?_ | refine wV2u dX8_room_83 lk_X8_283 rfl (by first | assumption | exact gs_at | (rw [gs_ne (by omega)]; (first | assumption | exact gs_at | (rw [gs_ne (by omega)]; (first | assumption | exact gs_at | (rw [gs_ne (by omega)]; (first | assumption | exact gs_at | (rw [gs_ne (by omega)]; (first | assumption | exact gs_at))))))))) rfl rfl (m_itemsOf (w := 0) hV2 hm2 hR hB (by decide) (fun j => by have := b1 j; omega) (by omega)) (Nat.le_of_ble_eq_true rfl) (Nat.le_of_ble_eq_true rfl) (Nat.le_of_ble_eq_true rfl) (Nat.le_of_ble_eq_true rfl) ?_
          refine w_iret dX8_room_86 rfl (Nat.le_of_ble_eq_true rfl) (Nat.le_of_ble_eq_true rfl) ?_
          have hw : w = 0 ∨ w = 1 ∨ w = 2 ∨ w = 3 := by omega
          rcases hw with h | h | h | h <;> subst h
          all_goals first | omega | exact hQ
      · try simp (disch := omega) only [nI_b2, Decidable.not_not, nI_ltI, nI_leI, nI_eq, ge_iff_le, gt_iff_lt, ne_eq, Nat.not_lt, Nat.not_le] at c_56
        refine w_aload_n dX8_room_59 rfl ?_
        refine w_getf dX8_room_60 fl_X8_7 (by first | assumption | exact gs_at | (rw [gs_ne (by omega)]; (first | assumption | exact gs_at | (rw [gs_ne (by omega)]; (first | assumption | exact gs_at | (rw [gs_ne (by omega)]; (first | assumption | exact gs_at | (rw [gs_ne (by omega)]; (first | assumption | exact gs_at))))))))) rfl ?_
        refine w_bipush (v := nI 20) dX8_room_63 (by decide) ?_
        refine w_iload_n dX8_room_65 rfl ?_
        first | refine w_iaddN dX8_room_66 ?_ | refine w_iadd dX8_room_66 ?_
        refine w_iaload dX8_room_67 (by first | assumption | exact gs_at | (rw [gs_ne (by omega)]; (first | assumption | exact gs_at | (rw [gs_ne (by omega)]; (first | assumption | exact gs_at | (rw [gs_ne (by omega)]; (first | assumption | exact gs_at | (rw [gs_ne (by omega)]; (first | assumption | exact gs_at))))))))) (by first | assumption | exact vp_in_nI (by omega) (by omega) | exact vp_in_nI (by assumption) (by omega)) ?_
        rw [nI_clamp (by omega)]
        first | rw [r3] | rw [r4] | rw [r5] | rw [r6] | rw [r0] | rw [r11] | rw [r12] | rw [r7 _ (by omega)] | rw [r9 _ (by omega)] | rw [r14 _ (by omega)] | rw [r20 _ (by omega)] | rw [r26 _ _ (by omega) (by omega)] | skip
        refine w_goto (tgt := 86) dX8_room_68 (by decide) ?_
        refine w_iret dX8_room_86 rfl (Nat.le_of_ble_eq_true rfl) (Nat.le_of_ble_eq_true rfl) ?_
        have hw : w = 0 ∨ w = 1 ∨ w = 2 ∨ w = 3 := by omega
        rcases hw with h | h | h | h <;> subst h
        all_goals first | omega | exact hQ
    · try simp (disch := omega) only [nI_b2, Decidable.not_not, nI_ltI, nI_leI, nI_eq, ge_iff_le, gt_iff_lt, ne_eq, Nat.not_lt, Nat.not_le] at c_39
      refine w_aload_n dX8_room_42 rfl ?_
      refine w_getf dX8_room_43 fl_X8_7 (by first | assumption | exact gs_at | (rw [gs_ne (by omega)]; (first | assumption | exact gs_at | (rw [gs_ne (by omega)]; (first | assumption | exact gs_at | (rw [gs_ne (by omega)]; (first | assumption | exact gs_at | (rw [gs_ne (by omega)]; (first | assumption | exact gs_at))))))))) rfl ?_
      refine w_bipush (v := nI 14) dX8_room_46 (by decide) ?_
      refine w_iload_n dX8_room_48 rfl ?_
      first | refine w_iaddN dX8_room_49 ?_ | refine w_iadd dX8_room_49 ?_
      refine w_iaload dX8_room_50 (by first | assumption | exact gs_at | (rw [gs_ne (by omega)]; (first | assumption | exact gs_at | (rw [gs_ne (by omega)]; (first | assumption | exact gs_at | (rw [gs_ne (by omega)]; (first | assumption | exact gs_at | (rw [gs_ne (by omega)]; (first | assumption | exact gs_at))))))))) (by first | assumption | exact vp_in_nI (by omega) (by omega) | exact vp_in_nI (by assumption) (by omega)) ?_
      rw [nI_clamp (by omega)]
      first | rw [r3] | rw [r4] | rw [r5] | rw [r6] | rw [r0] | rw [r11] | rw [r12] | rw [r7 _ (by omega)] | rw [r9 _ (by omega)] | rw [r14 _ (by omega)] | rw [r20 _ (by omega)] | rw [r26 _ _ (by omega) (by omega)] | skip
      refine w_goto (tgt := 86) dX8_room_51 (by decide) ?_
      refine w_iret dX8_room_86 rfl (Nat.le_of_ble_eq_true rfl) (Nat.le_of_ble_eq_true rfl) ?_
      have hw : w = 0 ∨ w = 1 ∨ w = 2 ∨ w = 3 := by omega
      rcases hw with h | h | h | h <;> subst h
      all_goals first | omega | exact hQ
  · try simp (disch := omega) only [nI_b2, Decidable.not_not, nI_ltI, nI_leI, nI_eq, ge_iff_le, gt_iff_lt, ne_eq, Nat.not_lt, Nat.not_le] at c_33
    exact absurd c_33 (by decide)
theorem m_room {E : EV} {V : Nat} {th hi ac tp ba en at_ fa dp io hm_ we sh so : Int32} {mm : Nat → Int32} {T : ST} {sd : Int32} {G : AH} {x w : Int32} (hV : G.1 V = some (mO V th hi ac tp ba en at_ fa dp io hm_ we sh so)) (hm : G.1 (V + 1) = some (aI 750 mm)) (hR : MoR mm T sd) (hB : Bd T)  : Cu E 3 kX8_room [.ref V, .int x, .int w] G (.int (if xk2 (okI 6 x) (okN 0 (nI 3) w) = 0 then roomV T (ix x) w else nI 0)) (gs G V (mO V (nI (xk2 (okI 6 x) (okN 0 (nI 3) w))) hi ac tp ba en at_ fa dp io hm_ we sh so)) := by
  refine Ct.intro rfl (by decide) [.ref V, .int x, .int w] (by simp [Value.category]) (Nat.le_of_ble_eq_true rfl) rfl ?_
  obtain ⟨r0, r3, r4, r5, r6, r7, r9, r11, r12, r14, r20, r26, rL⟩ := id hR
  obtain ⟨b0, b1, b2_, b3, b4, b5, b6, b7, b8, b9, b10, b11, b12, b13, b14, b15, b16, b17, b18, b19⟩ := id hB
  refine w_aload_n dX8_room_0 rfl ?_
  refine w_iload_n dX8_room_1 rfl ?_
  refine wS1u dX8_room_2 lk_X8_280 rfl (m_isRoom) (Nat.le_of_ble_eq_true rfl) (Nat.le_of_ble_eq_true rfl) (Nat.le_of_ble_eq_true rfl) (Nat.le_of_ble_eq_true rfl) ?_
  refine w_ifN_ne (tgt := 12) dX8_room_5 (by decide) (fun c_5 => ?_) (fun c_5 => ?_)
  · try simp (disch := omega) only [nI_b2, Decidable.not_not, nI_ltI, nI_leI, nI_eq, ge_iff_le, gt_iff_lt, ne_eq, Nat.not_lt, Nat.not_le] at c_5
    refine w_iload_n dX8_room_12 rfl ?_
    refine w_iconst (v := nI 0) dX8_room_13 (by decide) ?_
    refine w_iconst (v := nI 3) dX8_room_14 (by decide) ?_
    refine wS3u dX8_room_15 lk_X8_42 rfl (m_isIn) (Nat.le_of_ble_eq_true rfl) (Nat.le_of_ble_eq_true rfl) (Nat.le_of_ble_eq_true rfl) (Nat.le_of_ble_eq_true rfl) ?_
    refine w_ifN_ne (tgt := 25) dX8_room_18 (by decide) (fun c_18 => ?_) (fun c_18 => ?_)
    · try simp (disch := omega) only [nI_b2, Decidable.not_not, nI_ltI, nI_leI, nI_eq, ge_iff_le, gt_iff_lt, ne_eq, Nat.not_lt, Nat.not_le] at c_18
      refine w_iconst (v := nI 0) dX8_room_25 (by decide) ?_
      first
        | (have kx : xk2 (okI 6 x) (okN 0 (nI 3) w) = 1 := (by rw [xk2, if_neg c_5]); exact mr_m_room hV (by decide) ⟨by rw [kx]; rfl, by rw [kx]⟩)
        | (have kx : xk2 (okI 6 x) (okN 0 (nI 3) w) = 2 := (by rw [xk2, if_pos c_5, if_neg c_18]); exact mr_m_room hV (by decide) ⟨by rw [kx]; rfl, by rw [kx]⟩)
        | (have kx : xk2 (okI 6 x) (okN 0 (nI 3) w) = 0 := (by rw [xk2, if_pos c_5, if_pos c_18]); obtain ⟨i, hi9, e⟩ := in_N (n := 6) (by omega) c_5; subst e; obtain ⟨w9, hw8, hw9, e2⟩ := in_L (a := 0) (n := 3) (by omega) (by omega) c_18; subst e2; exact mk_m_room hi9 hw9 hV hm hR hB ⟨by rw [kx, if_pos rfl, ix_nI (by omega)], by rw [kx]⟩)
    · try simp (disch := omega) only [nI_b2, Decidable.not_not, nI_ltI, nI_leI, nI_eq, ge_iff_le, gt_iff_lt, ne_eq, Nat.not_lt, Nat.not_le] at c_18
      refine w_iconst (v := nI 2) dX8_room_21 (by decide) ?_
      refine w_goto (tgt := 26) dX8_room_22 (by decide) ?_
      first
        | (have kx : xk2 (okI 6 x) (okN 0 (nI 3) w) = 1 := (by rw [xk2, if_neg c_5]); exact mr_m_room hV (by decide) ⟨by rw [kx]; rfl, by rw [kx]⟩)
        | (have kx : xk2 (okI 6 x) (okN 0 (nI 3) w) = 2 := (by rw [xk2, if_pos c_5, if_neg c_18]); exact mr_m_room hV (by decide) ⟨by rw [kx]; rfl, by rw [kx]⟩)
        | (have kx : xk2 (okI 6 x) (okN 0 (nI 3) w) = 0 := (by rw [xk2, if_pos c_5, if_pos c_18]); obtain ⟨i, hi9, e⟩ := in_N (n := 6) (by omega) c_5; subst e; obtain ⟨w9, hw8, hw9, e2⟩ := in_L (a := 0) (n := 3) (by omega) (by omega) c_18; subst e2; exact mk_m_room hi9 hw9 hV hm hR hB ⟨by rw [kx, if_pos rfl, ix_nI (by omega)], by rw [kx]⟩)
  · try simp (disch := omega) only [nI_b2, Decidable.not_not, nI_ltI, nI_leI, nI_eq, ge_iff_le, gt_iff_lt, ne_eq, Nat.not_lt, Nat.not_le] at c_5
    refine w_iconst (v := nI 1) dX8_room_8 (by decide) ?_
    refine w_goto (tgt := 26) dX8_room_9 (by decide) ?_
    first
      | (have kx : xk2 (okI 6 x) (okN 0 (nI 3) w) = 1 := (by rw [xk2, if_neg c_5]); exact mr_m_room hV (by decide) ⟨by rw [kx]; rfl, by rw [kx]⟩)
      | (have kx : xk2 (okI 6 x) (okN 0 (nI 3) w) = 2 := (by rw [xk2, if_pos c_5, if_neg c_18]); exact mr_m_room hV (by decide) ⟨by rw [kx]; rfl, by rw [kx]⟩)
      | (have kx : xk2 (okI 6 x) (okN 0 (nI 3) w) = 0 := (by rw [xk2, if_pos c_5, if_pos c_18]); obtain ⟨i, hi9, e⟩ := in_N (n := 6) (by omega) c_5; subst e; obtain ⟨w9, hw8, hw9, e2⟩ := in_L (a := 0) (n := 3) (by omega) (by omega) c_18; subst e2; exact mk_m_room hi9 hw9 hV hm hR hB ⟨by rw [kx, if_pos rfl, ix_nI (by omega)], by rw [kx]⟩)
theorem okI2 {x : Int32} : inP x (nI 0) (nI 1) ↔ okI 2 x := by
  have h := okI_in (n := 2) (by decide) (x := x)
  rw [show (nI 2 - nI 1 : Int32) = nI 1 from rfl] at h
  unfold b2 at h
  by_cases h1 : inP x (nI 0) (nI 1)
  · by_cases h2 : okI 2 x
    · exact ⟨fun _ => h2, fun _ => h1⟩
    · rw [if_pos h1, if_neg h2] at h; exact absurd h (by decide)
  · by_cases h2 : okI 2 x
    · rw [if_neg h1, if_pos h2] at h; exact absurd h (by decide)
    · exact ⟨fun h => absurd h h1, fun h => absurd h h2⟩
theorem mr_m_side {E : EV} {Q : OC → AH → Prop} {V : Nat} {th hi ac tp ba en at_ fa dp io hm_ we sh so : Int32} {G : AH} {x w : Int32} {j : Nat} (hV : G.1 V = some (mO V th hi ac tp ba en at_ fa dp io hm_ we sh so)) (hj : 0 < j ∧ j < 4) (hQ : Q (.inl (some (.int (nI 0)))) (gs G V (mO V (nI j) hi ac tp ba en at_ fa dp io hm_ we sh so))) : Wp E 7 0 0 kX8_side Q G (0, 0) 28 [.ref V, .int x, .int w] [.int (nI j), .ref V] := by
  refine w_putf dX8_side_28 fl_X8_39 (by first | assumption | exact gs_at | (rw [gs_ne (by omega)]; (first | assumption | exact gs_at | (rw [gs_ne (by omega)]; (first | assumption | exact gs_at | (rw [gs_ne (by omega)]; (first | assumption | exact gs_at | (rw [gs_ne (by omega)]; (first | assumption | exact gs_at))))))))) (by simp) rfl rfl ?_
  refine w_aload_n dX8_side_31 rfl ?_
  refine w_getf dX8_side_32 fl_X8_39 (by first | assumption | exact gs_at | (rw [gs_ne (by omega)]; (first | assumption | exact gs_at | (rw [gs_ne (by omega)]; (first | assumption | exact gs_at | (rw [gs_ne (by omega)]; (first | assumption | exact gs_at | (rw [gs_ne (by omega)]; (first | assumption | exact gs_at))))))))) rfl ?_
  refine w_ifN_le (tgt := 40) dX8_side_35 (by decide) (fun c_35 => ?_) (fun c_35 => ?_)
  · try simp (disch := omega) only [nI_b2, Decidable.not_not, nI_ltI, nI_leI, nI_eq, ge_iff_le, gt_iff_lt, ne_eq, Nat.not_lt, Nat.not_le] at c_35
    exact absurd c_35 (by omega)
  · try simp (disch := omega) only [nI_b2, Decidable.not_not, nI_ltI, nI_leI, nI_eq, ge_iff_le, gt_iff_lt, ne_eq, Nat.not_lt, Nat.not_le] at c_35
    refine w_iconst (v := nI 0) dX8_side_38 (by decide) ?_
    refine w_iret dX8_side_39 rfl (Nat.le_of_ble_eq_true rfl) (Nat.le_of_ble_eq_true rfl) ?_
    exact hQ
theorem mk_m_side {E : EV} {Q : OC → AH → Prop} {V : Nat} {th hi ac tp ba en at_ fa dp io hm_ we sh so : Int32} {mm : Nat → Int32} {T : ST} {sd : Int32} {G : AH} {i w : Nat} (hi9 : i < 2) (hw9 : w ≤ 4) (hV : G.1 V = some (mO V th hi ac tp ba en at_ fa dp io hm_ we sh so)) (hm : G.1 (V + 1) = some (aI 750 mm)) (hR : MoR mm T sd) (hB : Bd T) (hQ : Q (.inl (some (.int (sideV T i (nI w))))) (gs G V (mO V (nI 0) hi ac tp ba en at_ fa dp io hm_ we sh so))) : Wp E 7 0 0 kX8_side Q G (0, 0) 28 [.ref V, .int (nI i), .int (nI w)] [.int (nI 0), .ref V] := by
  obtain ⟨r0, r3, r4, r5, r6, r7, r9, r11, r12, r14, r20, r26, rL⟩ := id hR
  obtain ⟨b0, b1, b2_, b3, b4, b5, b6, b7, b8, b9, b10, b11, b12, b13, b14, b15, b16, b17, b18, b19⟩ := id hB
  have hV2 : (gs G V (mO V (nI 0) hi ac tp ba en at_ fa dp io hm_ we sh so)).1 V = some (mO V (nI 0) hi ac tp ba en at_ fa dp io hm_ we sh so) := gs_at
  have hm2 : (gs G V (mO V (nI 0) hi ac tp ba en at_ fa dp io hm_ we sh so)).1 (V + 1) = some (aI 750 mm) := (gs_ne (by omega)).trans hm
  refine w_putf dX8_side_28 fl_X8_39 (by first | assumption | exact gs_at | (rw [gs_ne (by omega)]; (first | assumption | exact gs_at | (rw [gs_ne (by omega)]; (first | assumption | exact gs_at | (rw [gs_ne (by omega)]; (first | assumption | exact gs_at | (rw [gs_ne (by omega)]; (first | assumption | exact gs_at))))))))) (by simp) rfl rfl ?_
  refine w_aload_n dX8_side_31 rfl ?_
  refine w_getf dX8_side_32 fl_X8_39 (by first | assumption | exact gs_at | (rw [gs_ne (by omega)]; (first | assumption | exact gs_at | (rw [gs_ne (by omega)]; (first | assumption | exact gs_at | (rw [gs_ne (by omega)]; (first | assumption | exact gs_at | (rw [gs_ne (by omega)]; (first | assumption | exact gs_at))))))))) rfl ?_
  refine w_ifN_le (tgt := 40) dX8_side_35 (by decide) (fun c_35 => ?_) (fun c_35 => ?_)
  · try simp (disch := omega) only [nI_b2, Decidable.not_not, nI_ltI, nI_leI, nI_eq, ge_iff_le, gt_iff_lt, ne_eq, Nat.not_lt, Nat.not_le] at c_35
    refine w_iload_n dX8_side_40 rfl ?_
    refine w_ifN_ne (tgt := 54) dX8_side_41 (by decide) (fun c_41 => ?_) (fun c_41 => ?_)
    · try simp (disch := omega) only [nI_b2, Decidable.not_not, nI_ltI, nI_leI, nI_eq, ge_iff_le, gt_iff_lt, ne_eq, Nat.not_lt, Nat.not_le] at c_41
      refine w_iload_n dX8_side_54 rfl ?_
      refine w_iconst (v := nI 1) dX8_side_55 (by decide) ?_
      refine w_icmp_ne (tgt := 69) dX8_side_56 (by decide) (fun c_56 => ?_) (fun c_56 => ?_)
      · try simp (disch := omega) only [nI_b2, Decidable.not_not, nI_ltI, nI_leI, nI_eq, ge_iff_le, gt_iff_lt, ne_eq, Nat.not_lt, Nat.not_le] at c_56
        refine w_iload_n dX8_side_69 rfl ?_
        refine w_iconst (v := nI 2) dX8_side_70 (by decide) ?_
        refine w_icmp_ne (tgt := 83) dX8_side_71 (by decide) (fun c_71 => ?_) (fun c_71 => ?_)
        · try simp (disch := omega) only [nI_b2, Decidable.not_not, nI_ltI, nI_leI, nI_eq, ge_iff_le, gt_iff_lt, ne_eq, Nat.not_lt, Nat.not_le] at c_71
          refine w_iload_n dX8_side_83 rfl ?_
          refine w_iconst (v := nI 3) dX8_side_84 (by decide) ?_
          refine w_icmp_ne (tgt := 96) dX8_side_85 (by decide) (fun c_85 => ?_) (fun c_85 => ?_)
          · try simp (disch := omega) only [nI_b2, Decidable.not_not, nI_ltI, nI_leI, nI_eq, ge_iff_le, gt_iff_lt, ne_eq, Nat.not_lt, Nat.not_le] at c_85
            refine w_aload_n dX8_side_96 rfl ?_
            refine w_iload_n dX8_side_97 rfl ?_
            refine wV1u dX8_side_98 lk_X8_292 rfl (by first | assumption | exact gs_at | (rw [gs_ne (by omega)]; (first | assumption | exact gs_at | (rw [gs_ne (by omega)]; (first | assumption | exact gs_at | (rw [gs_ne (by omega)]; (first | assumption | exact gs_at | (rw [gs_ne (by omega)]; (first | assumption | exact gs_at))))))))) rfl rfl (m_latest hV2 hm2 hR hB hi9) (Nat.le_of_ble_eq_true rfl) (Nat.le_of_ble_eq_true rfl) (Nat.le_of_ble_eq_true rfl) (Nat.le_of_ble_eq_true rfl) ?_
            refine w_iret dX8_side_101 rfl (Nat.le_of_ble_eq_true rfl) (Nat.le_of_ble_eq_true rfl) ?_
            have hw : w = 0 ∨ w = 1 ∨ w = 2 ∨ w = 3 ∨ w = 4 := by omega
            rcases hw with h | h | h | h | h <;> subst h
            all_goals first | omega | exact hQ
          · try simp (disch := omega) only [nI_b2, Decidable.not_not, nI_ltI, nI_leI, nI_eq, ge_iff_le, gt_iff_lt, ne_eq, Nat.not_lt, Nat.not_le] at c_85
            refine w_aload_n dX8_side_88 rfl ?_
            refine w_iload_n dX8_side_89 rfl ?_
            refine wV1u dX8_side_90 lk_X8_289 rfl (by first | assumption | exact gs_at | (rw [gs_ne (by omega)]; (first | assumption | exact gs_at | (rw [gs_ne (by omega)]; (first | assumption | exact gs_at | (rw [gs_ne (by omega)]; (first | assumption | exact gs_at | (rw [gs_ne (by omega)]; (first | assumption | exact gs_at))))))))) rfl rfl (m_needs hV2 hm2 hR hB hi9) (Nat.le_of_ble_eq_true rfl) (Nat.le_of_ble_eq_true rfl) (Nat.le_of_ble_eq_true rfl) (Nat.le_of_ble_eq_true rfl) ?_
            refine w_goto (tgt := 101) dX8_side_93 (by decide) ?_
            refine w_iret dX8_side_101 rfl (Nat.le_of_ble_eq_true rfl) (Nat.le_of_ble_eq_true rfl) ?_
            have hw : w = 0 ∨ w = 1 ∨ w = 2 ∨ w = 3 ∨ w = 4 := by omega
            rcases hw with h | h | h | h | h <;> subst h
            all_goals first | omega | exact hQ
        · try simp (disch := omega) only [nI_b2, Decidable.not_not, nI_ltI, nI_leI, nI_eq, ge_iff_le, gt_iff_lt, ne_eq, Nat.not_lt, Nat.not_le] at c_71
          refine w_aload_n dX8_side_74 rfl ?_
          refine w_iload_n dX8_side_75 rfl ?_
          refine w_iconst (v := nI 4) dX8_side_76 (by decide) ?_
          refine wV2u dX8_side_77 lk_X8_283 rfl (by first | assumption | exact gs_at | (rw [gs_ne (by omega)]; (first | assumption | exact gs_at | (rw [gs_ne (by omega)]; (first | assumption | exact gs_at | (rw [gs_ne (by omega)]; (first | assumption | exact gs_at | (rw [gs_ne (by omega)]; (first | assumption | exact gs_at))))))))) rfl rfl (m_itemsOf (w := 4) hV2 hm2 hR hB (by decide) (fun j => by have := b5 j; omega) (by omega)) (Nat.le_of_ble_eq_true rfl) (Nat.le_of_ble_eq_true rfl) (Nat.le_of_ble_eq_true rfl) (Nat.le_of_ble_eq_true rfl) ?_
          refine w_goto (tgt := 101) dX8_side_80 (by decide) ?_
          refine w_iret dX8_side_101 rfl (Nat.le_of_ble_eq_true rfl) (Nat.le_of_ble_eq_true rfl) ?_
          have hw : w = 0 ∨ w = 1 ∨ w = 2 ∨ w = 3 ∨ w = 4 := by omega
          rcases hw with h | h | h | h | h <;> subst h
          all_goals first | omega | exact hQ
      · try simp (disch := omega) only [nI_b2, Decidable.not_not, nI_ltI, nI_leI, nI_eq, ge_iff_le, gt_iff_lt, ne_eq, Nat.not_lt, Nat.not_le] at c_56
        refine w_aload_n dX8_side_59 rfl ?_
        refine w_getf dX8_side_60 fl_X8_7 (by first | assumption | exact gs_at | (rw [gs_ne (by omega)]; (first | assumption | exact gs_at | (rw [gs_ne (by omega)]; (first | assumption | exact gs_at | (rw [gs_ne (by omega)]; (first | assumption | exact gs_at | (rw [gs_ne (by omega)]; (first | assumption | exact gs_at))))))))) rfl ?_
        refine w_bipush (v := nI 9) dX8_side_63 (by decide) ?_
        refine w_iload_n dX8_side_65 rfl ?_
        first | refine w_iaddN dX8_side_66 ?_ | refine w_iadd dX8_side_66 ?_
        refine w_iaload dX8_side_67 (by first | assumption | exact gs_at | (rw [gs_ne (by omega)]; (first | assumption | exact gs_at | (rw [gs_ne (by omega)]; (first | assumption | exact gs_at | (rw [gs_ne (by omega)]; (first | assumption | exact gs_at | (rw [gs_ne (by omega)]; (first | assumption | exact gs_at))))))))) (by first | assumption | exact vp_in_nI (by omega) (by omega) | exact vp_in_nI (by assumption) (by omega)) ?_
        rw [nI_clamp (by omega)]
        first | rw [r3] | rw [r4] | rw [r5] | rw [r6] | rw [r0] | rw [r11] | rw [r12] | rw [r7 _ (by omega)] | rw [r9 _ (by omega)] | rw [r14 _ (by omega)] | rw [r20 _ (by omega)] | rw [r26 _ _ (by omega) (by omega)] | skip
        refine w_iret dX8_side_68 rfl (Nat.le_of_ble_eq_true rfl) (Nat.le_of_ble_eq_true rfl) ?_
        have hw : w = 0 ∨ w = 1 ∨ w = 2 ∨ w = 3 ∨ w = 4 := by omega
        rcases hw with h | h | h | h | h <;> subst h
        all_goals first | omega | exact hQ
    · try simp (disch := omega) only [nI_b2, Decidable.not_not, nI_ltI, nI_leI, nI_eq, ge_iff_le, gt_iff_lt, ne_eq, Nat.not_lt, Nat.not_le] at c_41
      refine w_aload_n dX8_side_44 rfl ?_
      refine w_getf dX8_side_45 fl_X8_7 (by first | assumption | exact gs_at | (rw [gs_ne (by omega)]; (first | assumption | exact gs_at | (rw [gs_ne (by omega)]; (first | assumption | exact gs_at | (rw [gs_ne (by omega)]; (first | assumption | exact gs_at | (rw [gs_ne (by omega)]; (first | assumption | exact gs_at))))))))) rfl ?_
      refine w_bipush (v := nI 7) dX8_side_48 (by decide) ?_
      refine w_iload_n dX8_side_50 rfl ?_
      first | refine w_iaddN dX8_side_51 ?_ | refine w_iadd dX8_side_51 ?_
      refine w_iaload dX8_side_52 (by first | assumption | exact gs_at | (rw [gs_ne (by omega)]; (first | assumption | exact gs_at | (rw [gs_ne (by omega)]; (first | assumption | exact gs_at | (rw [gs_ne (by omega)]; (first | assumption | exact gs_at | (rw [gs_ne (by omega)]; (first | assumption | exact gs_at))))))))) (by first | assumption | exact vp_in_nI (by omega) (by omega) | exact vp_in_nI (by assumption) (by omega)) ?_
      rw [nI_clamp (by omega)]
      first | rw [r3] | rw [r4] | rw [r5] | rw [r6] | rw [r0] | rw [r11] | rw [r12] | rw [r7 _ (by omega)] | rw [r9 _ (by omega)] | rw [r14 _ (by omega)] | rw [r20 _ (by omega)] | rw [r26 _ _ (by omega) (by omega)] | skip
      refine w_iret dX8_side_53 rfl (Nat.le_of_ble_eq_true rfl) (Nat.le_of_ble_eq_true rfl) ?_
      have hw : w = 0 ∨ w = 1 ∨ w = 2 ∨ w = 3 ∨ w = 4 := by omega
      rcases hw with h | h | h | h | h <;> subst h
      all_goals first | omega | exact hQ
  · try simp (disch := omega) only [nI_b2, Decidable.not_not, nI_ltI, nI_leI, nI_eq, ge_iff_le, gt_iff_lt, ne_eq, Nat.not_lt, Nat.not_le] at c_35
    exact absurd c_35 (by decide)
theorem m_side {E : EV} {V : Nat} {th hi ac tp ba en at_ fa dp io hm_ we sh so : Int32} {mm : Nat → Int32} {T : ST} {sd : Int32} {G : AH} {x w : Int32} (hV : G.1 V = some (mO V th hi ac tp ba en at_ fa dp io hm_ we sh so)) (hm : G.1 (V + 1) = some (aI 750 mm)) (hR : MoR mm T sd) (hB : Bd T)  : Cu E 7 kX8_side [.ref V, .int x, .int w] G (.int (if xk2 (okI 2 x) (okN 0 (nI 4) w) = 0 then sideV T (ix x) w else nI 0)) (gs G V (mO V (nI (xk2 (okI 2 x) (okN 0 (nI 4) w))) hi ac tp ba en at_ fa dp io hm_ we sh so)) := by
  refine Ct.intro rfl (by decide) [.ref V, .int x, .int w] (by simp [Value.category]) (Nat.le_of_ble_eq_true rfl) rfl ?_
  obtain ⟨r0, r3, r4, r5, r6, r7, r9, r11, r12, r14, r20, r26, rL⟩ := id hR
  obtain ⟨b0, b1, b2_, b3, b4, b5, b6, b7, b8, b9, b10, b11, b12, b13, b14, b15, b16, b17, b18, b19⟩ := id hB
  refine w_aload_n dX8_side_0 rfl ?_
  refine w_iload_n dX8_side_1 rfl ?_
  refine w_iconst (v := nI 0) dX8_side_2 (by decide) ?_
  refine w_iconst (v := nI 1) dX8_side_3 (by decide) ?_
  refine wS3u dX8_side_4 lk_X8_42 rfl (m_isIn) (Nat.le_of_ble_eq_true rfl) (Nat.le_of_ble_eq_true rfl) (Nat.le_of_ble_eq_true rfl) (Nat.le_of_ble_eq_true rfl) ?_
  refine w_ifN_ne (tgt := 14) dX8_side_7 (by decide) (fun c_7 => ?_) (fun c_7 => ?_)
  · try simp (disch := omega) only [nI_b2, Decidable.not_not, nI_ltI, nI_leI, nI_eq, ge_iff_le, gt_iff_lt, ne_eq, Nat.not_lt, Nat.not_le] at c_7
    refine w_iload_n dX8_side_14 rfl ?_
    refine w_iconst (v := nI 0) dX8_side_15 (by decide) ?_
    refine w_iconst (v := nI 4) dX8_side_16 (by decide) ?_
    refine wS3u dX8_side_17 lk_X8_42 rfl (m_isIn) (Nat.le_of_ble_eq_true rfl) (Nat.le_of_ble_eq_true rfl) (Nat.le_of_ble_eq_true rfl) (Nat.le_of_ble_eq_true rfl) ?_
    refine w_ifN_ne (tgt := 27) dX8_side_20 (by decide) (fun c_20 => ?_) (fun c_20 => ?_)
    · try simp (disch := omega) only [nI_b2, Decidable.not_not, nI_ltI, nI_leI, nI_eq, ge_iff_le, gt_iff_lt, ne_eq, Nat.not_lt, Nat.not_le] at c_20
      refine w_iconst (v := nI 0) dX8_side_27 (by decide) ?_
      first
        | (have kx : xk2 (okI 2 x) (okN 0 (nI 4) w) = 1 := (by rw [xk2, if_neg (fun h => c_7 (okI2.mpr h))]); exact mr_m_side hV (by decide) ⟨by rw [kx]; rfl, by rw [kx]⟩)
        | (have kx : xk2 (okI 2 x) (okN 0 (nI 4) w) = 2 := (by rw [xk2, if_pos (okI2.mp c_7), if_neg c_20]); exact mr_m_side hV (by decide) ⟨by rw [kx]; rfl, by rw [kx]⟩)
        | (have c7 := okI2.mp c_7; have kx : xk2 (okI 2 x) (okN 0 (nI 4) w) = 0 := (by rw [xk2, if_pos c7, if_pos c_20]); obtain ⟨i, hi9, e⟩ := in_N (n := 2) (by omega) c7; subst e; obtain ⟨w9, hw8, hw9, e2⟩ := in_L (a := 0) (n := 4) (by omega) (by omega) c_20; subst e2; exact mk_m_side hi9 hw9 hV hm hR hB ⟨by rw [kx, if_pos rfl, ix_nI (by omega)], by rw [kx]⟩)
    · try simp (disch := omega) only [nI_b2, Decidable.not_not, nI_ltI, nI_leI, nI_eq, ge_iff_le, gt_iff_lt, ne_eq, Nat.not_lt, Nat.not_le] at c_20
      refine w_iconst (v := nI 2) dX8_side_23 (by decide) ?_
      refine w_goto (tgt := 28) dX8_side_24 (by decide) ?_
      first
        | (have kx : xk2 (okI 2 x) (okN 0 (nI 4) w) = 1 := (by rw [xk2, if_neg (fun h => c_7 (okI2.mpr h))]); exact mr_m_side hV (by decide) ⟨by rw [kx]; rfl, by rw [kx]⟩)
        | (have kx : xk2 (okI 2 x) (okN 0 (nI 4) w) = 2 := (by rw [xk2, if_pos (okI2.mp c_7), if_neg c_20]); exact mr_m_side hV (by decide) ⟨by rw [kx]; rfl, by rw [kx]⟩)
        | (have c7 := okI2.mp c_7; have kx : xk2 (okI 2 x) (okN 0 (nI 4) w) = 0 := (by rw [xk2, if_pos c7, if_pos c_20]); obtain ⟨i, hi9, e⟩ := in_N (n := 2) (by omega) c7; subst e; obtain ⟨w9, hw8, hw9, e2⟩ := in_L (a := 0) (n := 4) (by omega) (by omega) c_20; subst e2; exact mk_m_side hi9 hw9 hV hm hR hB ⟨by rw [kx, if_pos rfl, ix_nI (by omega)], by rw [kx]⟩)
  · try simp (disch := omega) only [nI_b2, Decidable.not_not, nI_ltI, nI_leI, nI_eq, ge_iff_le, gt_iff_lt, ne_eq, Nat.not_lt, Nat.not_le] at c_7
    refine w_iconst (v := nI 1) dX8_side_10 (by decide) ?_
    refine w_goto (tgt := 28) dX8_side_11 (by decide) ?_
    first
      | (have kx : xk2 (okI 2 x) (okN 0 (nI 4) w) = 1 := (by rw [xk2, if_neg (fun h => c_7 (okI2.mpr h))]); exact mr_m_side hV (by decide) ⟨by rw [kx]; rfl, by rw [kx]⟩)
      | (have kx : xk2 (okI 2 x) (okN 0 (nI 4) w) = 2 := (by rw [xk2, if_pos (okI2.mp c_7), if_neg c_20]); exact mr_m_side hV (by decide) ⟨by rw [kx]; rfl, by rw [kx]⟩)
      | (have c7 := okI2.mp c_7; have kx : xk2 (okI 2 x) (okN 0 (nI 4) w) = 0 := (by rw [xk2, if_pos c7, if_pos c_20]); obtain ⟨i, hi9, e⟩ := in_N (n := 2) (by omega) c7; subst e; obtain ⟨w9, hw8, hw9, e2⟩ := in_L (a := 0) (n := 4) (by omega) (by omega) c_20; subst e2; exact mk_m_side hi9 hw9 hV hm hR hB ⟨by rw [kx, if_pos rfl, ix_nI (by omega)], by rw [kx]⟩)
theorem mr_m_steps {E : EV} {Q : OC → AH → Prop} {V : Nat} {th hi ac tp ba en at_ fa dp io hm_ we sh so : Int32} {G : AH} {x y : Int32} {j : Nat} (hV : G.1 V = some (mO V th hi ac tp ba en at_ fa dp io hm_ we sh so)) (hj : 0 < j ∧ j < 4) (hQ : Q (.inl (some (.int (nI 0)))) (gs G V (mO V (nI j) hi ac tp ba en at_ fa dp io hm_ we sh so))) : Wp E 3 0 0 kX8_steps Q G (0, 0) 20 [.ref V, .int x, .int y] [.int (nI j), .ref V] := by
  refine w_putf dX8_steps_20 fl_X8_39 (by first | assumption | exact gs_at | (rw [gs_ne (by omega)]; (first | assumption | exact gs_at | (rw [gs_ne (by omega)]; (first | assumption | exact gs_at | (rw [gs_ne (by omega)]; (first | assumption | exact gs_at | (rw [gs_ne (by omega)]; (first | assumption | exact gs_at))))))))) (by simp) rfl rfl ?_
  refine w_aload_n dX8_steps_23 rfl ?_
  refine w_getf dX8_steps_24 fl_X8_39 (by first | assumption | exact gs_at | (rw [gs_ne (by omega)]; (first | assumption | exact gs_at | (rw [gs_ne (by omega)]; (first | assumption | exact gs_at | (rw [gs_ne (by omega)]; (first | assumption | exact gs_at | (rw [gs_ne (by omega)]; (first | assumption | exact gs_at))))))))) rfl ?_
  refine w_ifN_le (tgt := 34) dX8_steps_27 (by decide) (fun c_27 => ?_) (fun c_27 => ?_)
  · try simp (disch := omega) only [nI_b2, Decidable.not_not, nI_ltI, nI_leI, nI_eq, ge_iff_le, gt_iff_lt, ne_eq, Nat.not_lt, Nat.not_le] at c_27
    exact absurd c_27 (by omega)
  · try simp (disch := omega) only [nI_b2, Decidable.not_not, nI_ltI, nI_leI, nI_eq, ge_iff_le, gt_iff_lt, ne_eq, Nat.not_lt, Nat.not_le] at c_27
    refine w_iconst (v := nI 0) dX8_steps_30 (by decide) ?_
    refine w_goto (tgt := 39) dX8_steps_31 (by decide) ?_
    refine w_iret dX8_steps_39 rfl (Nat.le_of_ble_eq_true rfl) (Nat.le_of_ble_eq_true rfl) ?_
    exact hQ
theorem mk_m_steps {E : EV} {Q : OC → AH → Prop} {V : Nat} {th hi ac tp ba en at_ fa dp io hm_ we sh so : Int32} {mm : Nat → Int32} {T : ST} {sd : Int32} {G : AH} {i j : Nat} (hi9 : i < 6) (hj9 : j < 6) (hV : G.1 V = some (mO V th hi ac tp ba en at_ fa dp io hm_ we sh so)) (hm : G.1 (V + 1) = some (aI 750 mm)) (hR : MoR mm T sd) (hB : Bd T) (hQ : Q (.inl (some (.int (nI (stN i j))))) (gs G V (mO V (nI 0) hi ac tp ba en at_ fa dp io hm_ we sh so))) : Wp E 3 0 0 kX8_steps Q G (0, 0) 20 [.ref V, .int (nI i), .int (nI j)] [.int (nI 0), .ref V] := by
  obtain ⟨r0, r3, r4, r5, r6, r7, r9, r11, r12, r14, r20, r26, rL⟩ := id hR
  obtain ⟨b0, b1, b2_, b3, b4, b5, b6, b7, b8, b9, b10, b11, b12, b13, b14, b15, b16, b17, b18, b19⟩ := id hB
  have hV2 : (gs G V (mO V (nI 0) hi ac tp ba en at_ fa dp io hm_ we sh so)).1 V = some (mO V (nI 0) hi ac tp ba en at_ fa dp io hm_ we sh so) := gs_at
  have hm2 : (gs G V (mO V (nI 0) hi ac tp ba en at_ fa dp io hm_ we sh so)).1 (V + 1) = some (aI 750 mm) := (gs_ne (by omega)).trans hm
  refine w_putf dX8_steps_20 fl_X8_39 (by first | assumption | exact gs_at | (rw [gs_ne (by omega)]; (first | assumption | exact gs_at | (rw [gs_ne (by omega)]; (first | assumption | exact gs_at | (rw [gs_ne (by omega)]; (first | assumption | exact gs_at | (rw [gs_ne (by omega)]; (first | assumption | exact gs_at))))))))) (by simp) rfl rfl ?_
  refine w_aload_n dX8_steps_23 rfl ?_
  refine w_getf dX8_steps_24 fl_X8_39 (by first | assumption | exact gs_at | (rw [gs_ne (by omega)]; (first | assumption | exact gs_at | (rw [gs_ne (by omega)]; (first | assumption | exact gs_at | (rw [gs_ne (by omega)]; (first | assumption | exact gs_at | (rw [gs_ne (by omega)]; (first | assumption | exact gs_at))))))))) rfl ?_
  refine w_ifN_le (tgt := 34) dX8_steps_27 (by decide) (fun c_27 => ?_) (fun c_27 => ?_)
  · try simp (disch := omega) only [nI_b2, Decidable.not_not, nI_ltI, nI_leI, nI_eq, ge_iff_le, gt_iff_lt, ne_eq, Nat.not_lt, Nat.not_le] at c_27
    refine w_iload_n dX8_steps_34 rfl ?_
    refine w_iload_n dX8_steps_35 rfl ?_
    refine wS2u dX8_steps_36 lk_X8_225 rfl (m_stepsOf hi9 hj9) (Nat.le_of_ble_eq_true rfl) (Nat.le_of_ble_eq_true rfl) (Nat.le_of_ble_eq_true rfl) (Nat.le_of_ble_eq_true rfl) ?_
    refine w_iret dX8_steps_39 rfl (Nat.le_of_ble_eq_true rfl) (Nat.le_of_ble_eq_true rfl) ?_
    exact hQ
  · try simp (disch := omega) only [nI_b2, Decidable.not_not, nI_ltI, nI_leI, nI_eq, ge_iff_le, gt_iff_lt, ne_eq, Nat.not_lt, Nat.not_le] at c_27
    exact absurd c_27 (by decide)
theorem m_steps {E : EV} {V : Nat} {th hi ac tp ba en at_ fa dp io hm_ we sh so : Int32} {mm : Nat → Int32} {T : ST} {sd : Int32} {G : AH} {x y : Int32} (hV : G.1 V = some (mO V th hi ac tp ba en at_ fa dp io hm_ we sh so)) (hm : G.1 (V + 1) = some (aI 750 mm)) (hR : MoR mm T sd) (hB : Bd T)  : Cu E 3 kX8_steps [.ref V, .int x, .int y] G (.int (if xk1 (okI 6 x ∧ okI 6 y) = 0 then nI (stN (ix x) (ix y)) else nI 0)) (gs G V (mO V (nI (xk1 (okI 6 x ∧ okI 6 y))) hi ac tp ba en at_ fa dp io hm_ we sh so)) := by
  refine Ct.intro rfl (by decide) [.ref V, .int x, .int y] (by simp [Value.category]) (Nat.le_of_ble_eq_true rfl) rfl ?_
  obtain ⟨r0, r3, r4, r5, r6, r7, r9, r11, r12, r14, r20, r26, rL⟩ := id hR
  obtain ⟨b0, b1, b2_, b3, b4, b5, b6, b7, b8, b9, b10, b11, b12, b13, b14, b15, b16, b17, b18, b19⟩ := id hB
  refine w_aload_n dX8_steps_0 rfl ?_
  refine w_iload_n dX8_steps_1 rfl ?_
  refine wS1u dX8_steps_2 lk_X8_280 rfl (m_isRoom) (Nat.le_of_ble_eq_true rfl) (Nat.le_of_ble_eq_true rfl) (Nat.le_of_ble_eq_true rfl) (Nat.le_of_ble_eq_true rfl) ?_
  refine w_ifN_eq (tgt := 15) dX8_steps_5 (by decide) (fun c_5 => ?_) (fun c_5 => ?_)
  · try simp (disch := omega) only [nI_b2, Decidable.not_not, nI_ltI, nI_leI, nI_eq, ge_iff_le, gt_iff_lt, ne_eq, Nat.not_lt, Nat.not_le] at c_5
    refine w_iconst (v := nI 1) dX8_steps_15 (by decide) ?_
    refine w_goto (tgt := 20) dX8_steps_16 (by decide) ?_
    first
      | (have kx : xk1 (okI 6 x ∧ okI 6 y) = 1 := (by rw [xk1, if_neg (fun h => c_5 h.1)]); exact mr_m_steps hV (by decide) ⟨by rw [kx]; rfl, by rw [kx]⟩)
      | (have kx : xk1 (okI 6 x ∧ okI 6 y) = 1 := (by rw [xk1, if_neg (fun h => c_12 h.2)]); exact mr_m_steps hV (by decide) ⟨by rw [kx]; rfl, by rw [kx]⟩)
      | (have kx : xk1 (okI 6 x ∧ okI 6 y) = 0 := (by rw [xk1, if_pos ⟨c_5, c_12⟩]); obtain ⟨i, hi9, e⟩ := in_N (n := 6) (by omega) c_5; subst e; obtain ⟨j, hj9, e3⟩ := in_N (n := 6) (by omega) c_12; subst e3; exact mk_m_steps hi9 hj9 hV hm hR hB ⟨by rw [kx, if_pos rfl, ix_nI (by omega), ix_nI (by omega)], by rw [kx]⟩)
  · try simp (disch := omega) only [nI_b2, Decidable.not_not, nI_ltI, nI_leI, nI_eq, ge_iff_le, gt_iff_lt, ne_eq, Nat.not_lt, Nat.not_le] at c_5
    refine w_iload_n dX8_steps_8 rfl ?_
    refine wS1u dX8_steps_9 lk_X8_280 rfl (m_isRoom) (Nat.le_of_ble_eq_true rfl) (Nat.le_of_ble_eq_true rfl) (Nat.le_of_ble_eq_true rfl) (Nat.le_of_ble_eq_true rfl) ?_
    refine w_ifN_ne (tgt := 19) dX8_steps_12 (by decide) (fun c_12 => ?_) (fun c_12 => ?_)
    · try simp (disch := omega) only [nI_b2, Decidable.not_not, nI_ltI, nI_leI, nI_eq, ge_iff_le, gt_iff_lt, ne_eq, Nat.not_lt, Nat.not_le] at c_12
      refine w_iconst (v := nI 0) dX8_steps_19 (by decide) ?_
      first
        | (have kx : xk1 (okI 6 x ∧ okI 6 y) = 1 := (by rw [xk1, if_neg (fun h => c_5 h.1)]); exact mr_m_steps hV (by decide) ⟨by rw [kx]; rfl, by rw [kx]⟩)
        | (have kx : xk1 (okI 6 x ∧ okI 6 y) = 1 := (by rw [xk1, if_neg (fun h => c_12 h.2)]); exact mr_m_steps hV (by decide) ⟨by rw [kx]; rfl, by rw [kx]⟩)
        | (have kx : xk1 (okI 6 x ∧ okI 6 y) = 0 := (by rw [xk1, if_pos ⟨c_5, c_12⟩]); obtain ⟨i, hi9, e⟩ := in_N (n := 6) (by omega) c_5; subst e; obtain ⟨j, hj9, e3⟩ := in_N (n := 6) (by omega) c_12; subst e3; exact mk_m_steps hi9 hj9 hV hm hR hB ⟨by rw [kx, if_pos rfl, ix_nI (by omega), ix_nI (by omega)], by rw [kx]⟩)
    · try simp (disch := omega) only [nI_b2, Decidable.not_not, nI_ltI, nI_leI, nI_eq, ge_iff_le, gt_iff_lt, ne_eq, Nat.not_lt, Nat.not_le] at c_12
      refine w_iconst (v := nI 1) dX8_steps_15 (by decide) ?_
      refine w_goto (tgt := 20) dX8_steps_16 (by decide) ?_
      first
        | (have kx : xk1 (okI 6 x ∧ okI 6 y) = 1 := (by rw [xk1, if_neg (fun h => c_5 h.1)]); exact mr_m_steps hV (by decide) ⟨by rw [kx]; rfl, by rw [kx]⟩)
        | (have kx : xk1 (okI 6 x ∧ okI 6 y) = 1 := (by rw [xk1, if_neg (fun h => c_12 h.2)]); exact mr_m_steps hV (by decide) ⟨by rw [kx]; rfl, by rw [kx]⟩)
        | (have kx : xk1 (okI 6 x ∧ okI 6 y) = 0 := (by rw [xk1, if_pos ⟨c_5, c_12⟩]); obtain ⟨i, hi9, e⟩ := in_N (n := 6) (by omega) c_5; subst e; obtain ⟨j, hj9, e3⟩ := in_N (n := 6) (by omega) c_12; subst e3; exact mk_m_steps hi9 hj9 hV hm hR hB ⟨by rw [kx, if_pos rfl, ix_nI (by omega), ix_nI (by omega)], by rw [kx]⟩)
theorem m_missing {E : EV} {V : Nat} {th hi ac tp ba en at_ fa dp io hm_ we sh so : Int32} {mm : Nat → Int32} {T : ST} {sd : Int32} {G : AH}  (hV : G.1 V = some (mO V th hi ac tp ba en at_ fa dp io hm_ we sh so)) (hm : G.1 (V + 1) = some (aI 750 mm)) (hR : MoR mm T sd) (hB : Bd T)  : Cu E 4 kX8_missing [.ref V] G (.int (nI (bitN (mis T) (T 12 0)))) (gs G V (mO V (nI 0) hi ac tp ba en at_ fa dp io hm_ we sh so)) := by
  obtain ⟨r0, r3, r4, r5, r6, r7, r9, r11, r12, r14, r20, r26, rL⟩ := id hR
  obtain ⟨b0, b1, b2_, b3, b4, b5, b6, b7, b8, b9, b10, b11, b12, b13, b14, b15, b16, b17, b18, b19⟩ := id hB
  have hV2 : (gs G V (mO V (nI 0) hi ac tp ba en at_ fa dp io hm_ we sh so)).1 V = some (mO V (nI 0) hi ac tp ba en at_ fa dp io hm_ we sh so) := gs_at
  have hm2 : (gs G V (mO V (nI 0) hi ac tp ba en at_ fa dp io hm_ we sh so)).1 (V + 1) = some (aI 750 mm) := (gs_ne (by omega)).trans hm
  refine Ct.intro rfl (by decide) [.ref V] (by simp [Value.category]) (Nat.le_of_ble_eq_true rfl) rfl ?_
  refine w_aload_n dX8_missing_0 rfl ?_
  refine w_iconst (v := nI 0) dX8_missing_1 (by decide) ?_
  refine w_putf dX8_missing_2 fl_X8_39 (by first | assumption | exact gs_at | (rw [gs_ne (by omega)]; (first | assumption | exact gs_at | (rw [gs_ne (by omega)]; (first | assumption | exact gs_at | (rw [gs_ne (by omega)]; (first | assumption | exact gs_at | (rw [gs_ne (by omega)]; (first | assumption | exact gs_at))))))))) (by simp) rfl rfl ?_
  refine w_aload_n dX8_missing_5 rfl ?_
  refine wV0u dX8_missing_6 lk_X8_253 rfl (by first | assumption | exact gs_at | (rw [gs_ne (by omega)]; (first | assumption | exact gs_at | (rw [gs_ne (by omega)]; (first | assumption | exact gs_at | (rw [gs_ne (by omega)]; (first | assumption | exact gs_at | (rw [gs_ne (by omega)]; (first | assumption | exact gs_at))))))))) rfl rfl (m_missingOnes hV2 hm2 hR hB) (Nat.le_of_ble_eq_true rfl) (Nat.le_of_ble_eq_true rfl) (Nat.le_of_ble_eq_true rfl) (Nat.le_of_ble_eq_true rfl) ?_
  refine w_iret dX8_missing_9 rfl (Nat.le_of_ble_eq_true rfl) (Nat.le_of_ble_eq_true rfl) ?_
  exact ⟨rfl, rfl⟩
theorem m_work {E : EV} {V : Nat} {th hi ac tp ba en at_ fa dp io hm_ we sh so : Int32} {mm : Nat → Int32} {T : ST} {sd : Int32} {G : AH}  (hV : G.1 V = some (mO V th hi ac tp ba en at_ fa dp io hm_ we sh so)) (hm : G.1 (V + 1) = some (aI 750 mm)) (hR : MoR mm T sd) (hB : Bd T)  : Cu E 5 kX8_work [.ref V] G (.int (nI (wkAll T))) (gs G V (mO V (nI 0) hi ac tp ba en at_ fa dp io hm_ we sh so)) := by
  obtain ⟨r0, r3, r4, r5, r6, r7, r9, r11, r12, r14, r20, r26, rL⟩ := id hR
  obtain ⟨b0, b1, b2_, b3, b4, b5, b6, b7, b8, b9, b10, b11, b12, b13, b14, b15, b16, b17, b18, b19⟩ := id hB
  have hV2 : (gs G V (mO V (nI 0) hi ac tp ba en at_ fa dp io hm_ we sh so)).1 V = some (mO V (nI 0) hi ac tp ba en at_ fa dp io hm_ we sh so) := gs_at
  have hm2 : (gs G V (mO V (nI 0) hi ac tp ba en at_ fa dp io hm_ we sh so)).1 (V + 1) = some (aI 750 mm) := (gs_ne (by omega)).trans hm
  refine Ct.intro rfl (by decide) [.ref V] (by simp [Value.category]) (Nat.le_of_ble_eq_true rfl) rfl ?_
  refine w_aload_n dX8_work_0 rfl ?_
  refine w_iconst (v := nI 0) dX8_work_1 (by decide) ?_
  refine w_putf dX8_work_2 fl_X8_39 (by first | assumption | exact gs_at | (rw [gs_ne (by omega)]; (first | assumption | exact gs_at | (rw [gs_ne (by omega)]; (first | assumption | exact gs_at | (rw [gs_ne (by omega)]; (first | assumption | exact gs_at | (rw [gs_ne (by omega)]; (first | assumption | exact gs_at))))))))) (by simp) rfl rfl ?_
  refine w_aload_n dX8_work_5 rfl ?_
  refine wV0u dX8_work_6 lk_X8_286 rfl (by first | assumption | exact gs_at | (rw [gs_ne (by omega)]; (first | assumption | exact gs_at | (rw [gs_ne (by omega)]; (first | assumption | exact gs_at | (rw [gs_ne (by omega)]; (first | assumption | exact gs_at | (rw [gs_ne (by omega)]; (first | assumption | exact gs_at))))))))) rfl rfl (m_workOfAll hV2 hm2 hR hB) (Nat.le_of_ble_eq_true rfl) (Nat.le_of_ble_eq_true rfl) (Nat.le_of_ble_eq_true rfl) (Nat.le_of_ble_eq_true rfl) ?_
  refine w_iret dX8_work_9 rfl (Nat.le_of_ble_eq_true rfl) (Nat.le_of_ble_eq_true rfl) ?_
  exact ⟨rfl, rfl⟩
theorem m_due {E : EV} {V : Nat} {th hi ac tp ba en at_ fa dp io hm_ we sh so : Int32} {mm : Nat → Int32} {T : ST} {sd : Int32} {G : AH}  (hV : G.1 V = some (mO V th hi ac tp ba en at_ fa dp io hm_ we sh so)) (hm : G.1 (V + 1) = some (aI 750 mm)) (hR : MoR mm T sd) (hB : Bd T)  : Cu E 5 kX8_due [.ref V] G (.int (nI (dueN T))) (gs G V (mO V (nI 0) hi ac tp ba en at_ fa dp io hm_ we sh so)) := by
  obtain ⟨r0, r3, r4, r5, r6, r7, r9, r11, r12, r14, r20, r26, rL⟩ := id hR
  obtain ⟨b0, b1, b2_, b3, b4, b5, b6, b7, b8, b9, b10, b11, b12, b13, b14, b15, b16, b17, b18, b19⟩ := id hB
  have hV2 : (gs G V (mO V (nI 0) hi ac tp ba en at_ fa dp io hm_ we sh so)).1 V = some (mO V (nI 0) hi ac tp ba en at_ fa dp io hm_ we sh so) := gs_at
  have hm2 : (gs G V (mO V (nI 0) hi ac tp ba en at_ fa dp io hm_ we sh so)).1 (V + 1) = some (aI 750 mm) := (gs_ne (by omega)).trans hm
  refine Ct.intro rfl (by decide) [.ref V] (by simp [Value.category]) (Nat.le_of_ble_eq_true rfl) rfl ?_
  refine w_aload_n dX8_due_0 rfl ?_
  refine w_iconst (v := nI 0) dX8_due_1 (by decide) ?_
  refine w_putf dX8_due_2 fl_X8_39 (by first | assumption | exact gs_at | (rw [gs_ne (by omega)]; (first | assumption | exact gs_at | (rw [gs_ne (by omega)]; (first | assumption | exact gs_at | (rw [gs_ne (by omega)]; (first | assumption | exact gs_at | (rw [gs_ne (by omega)]; (first | assumption | exact gs_at))))))))) (by simp) rfl rfl ?_
  refine w_aload_n dX8_due_5 rfl ?_
  refine wV0u dX8_due_6 lk_X8_259 rfl (by first | assumption | exact gs_at | (rw [gs_ne (by omega)]; (first | assumption | exact gs_at | (rw [gs_ne (by omega)]; (first | assumption | exact gs_at | (rw [gs_ne (by omega)]; (first | assumption | exact gs_at | (rw [gs_ne (by omega)]; (first | assumption | exact gs_at))))))))) rfl rfl (m_owedNow hV2 hm2 hR hB) (Nat.le_of_ble_eq_true rfl) (Nat.le_of_ble_eq_true rfl) (Nat.le_of_ble_eq_true rfl) (Nat.le_of_ble_eq_true rfl) ?_
  refine w_iret dX8_due_9 rfl (Nat.le_of_ble_eq_true rfl) (Nat.le_of_ble_eq_true rfl) ?_
  exact ⟨rfl, rfl⟩
theorem m_settles {E : EV} {V : Nat} {th hi ac tp ba en at_ fa dp io hm_ we sh so : Int32} {mm : Nat → Int32} {T : ST} {sd : Int32} {G : AH}  (hV : G.1 V = some (mO V th hi ac tp ba en at_ fa dp io hm_ we sh so)) (hm : G.1 (V + 1) = some (aI 750 mm)) (hR : MoR mm T sd) (hB : Bd T)  : Cu E 1 kX8_settles [.ref V] G (.int (nI (T 10 0) - nI (T 10 1))) (gs G V (mO V (nI 0) hi ac tp ba en at_ fa dp io hm_ we sh so)) := by
  obtain ⟨r0, r3, r4, r5, r6, r7, r9, r11, r12, r14, r20, r26, rL⟩ := id hR
  obtain ⟨b0, b1, b2_, b3, b4, b5, b6, b7, b8, b9, b10, b11, b12, b13, b14, b15, b16, b17, b18, b19⟩ := id hB
  have hV2 : (gs G V (mO V (nI 0) hi ac tp ba en at_ fa dp io hm_ we sh so)).1 V = some (mO V (nI 0) hi ac tp ba en at_ fa dp io hm_ we sh so) := gs_at
  have hm2 : (gs G V (mO V (nI 0) hi ac tp ba en at_ fa dp io hm_ we sh so)).1 (V + 1) = some (aI 750 mm) := (gs_ne (by omega)).trans hm
  refine Ct.intro rfl (by decide) [.ref V] (by simp [Value.category]) (Nat.le_of_ble_eq_true rfl) rfl ?_
  refine w_aload_n dX8_settles_0 rfl ?_
  refine w_iconst (v := nI 0) dX8_settles_1 (by decide) ?_
  refine w_putf dX8_settles_2 fl_X8_39 (by first | assumption | exact gs_at | (rw [gs_ne (by omega)]; (first | assumption | exact gs_at | (rw [gs_ne (by omega)]; (first | assumption | exact gs_at | (rw [gs_ne (by omega)]; (first | assumption | exact gs_at | (rw [gs_ne (by omega)]; (first | assumption | exact gs_at))))))))) (by simp) rfl rfl ?_
  refine w_aload_n dX8_settles_5 rfl ?_
  refine w_getf dX8_settles_6 fl_X8_7 (by first | assumption | exact gs_at | (rw [gs_ne (by omega)]; (first | assumption | exact gs_at | (rw [gs_ne (by omega)]; (first | assumption | exact gs_at | (rw [gs_ne (by omega)]; (first | assumption | exact gs_at | (rw [gs_ne (by omega)]; (first | assumption | exact gs_at))))))))) rfl ?_
  refine w_bipush (v := nI 9) dX8_settles_9 (by decide) ?_
  refine w_iaload dX8_settles_11 (by first | assumption | exact gs_at | (rw [gs_ne (by omega)]; (first | assumption | exact gs_at | (rw [gs_ne (by omega)]; (first | assumption | exact gs_at | (rw [gs_ne (by omega)]; (first | assumption | exact gs_at | (rw [gs_ne (by omega)]; (first | assumption | exact gs_at))))))))) (by first | assumption | exact vp_in_nI (by omega) (by omega) | exact vp_in_nI (by assumption) (by omega)) ?_
  rw [nI_clamp (by omega)]
  rw [r9 0 (by decide)]
  refine w_aload_n dX8_settles_12 rfl ?_
  refine w_getf dX8_settles_13 fl_X8_7 (by first | assumption | exact gs_at | (rw [gs_ne (by omega)]; (first | assumption | exact gs_at | (rw [gs_ne (by omega)]; (first | assumption | exact gs_at | (rw [gs_ne (by omega)]; (first | assumption | exact gs_at | (rw [gs_ne (by omega)]; (first | assumption | exact gs_at))))))))) rfl ?_
  refine w_bipush (v := nI 10) dX8_settles_16 (by decide) ?_
  refine w_iaload dX8_settles_18 (by first | assumption | exact gs_at | (rw [gs_ne (by omega)]; (first | assumption | exact gs_at | (rw [gs_ne (by omega)]; (first | assumption | exact gs_at | (rw [gs_ne (by omega)]; (first | assumption | exact gs_at | (rw [gs_ne (by omega)]; (first | assumption | exact gs_at))))))))) (by first | assumption | exact vp_in_nI (by omega) (by omega) | exact vp_in_nI (by assumption) (by omega)) ?_
  rw [nI_clamp (by omega)]
  rw [r9 1 (by decide)]
  refine w_isub dX8_settles_19 ?_
  refine w_iret dX8_settles_20 rfl (Nat.le_of_ble_eq_true rfl) (Nat.le_of_ble_eq_true rfl) ?_
  exact ⟨rfl, rfl⟩
theorem ml_worse {E : EV} {Q : OC → AH → Prop} {V : Nat} {th hi ac tp ba en at_ fa dp io hm_ we sh so : Int32} {mm : Nat → Int32} {T : ST} {sd : Int32} {G : AH}  (hV : G.1 V = some (mO V th hi ac tp ba en at_ fa dp io hm_ we sh so)) (hm : G.1 (V + 1) = some (aI 750 mm)) (hR : MoR mm T sd) (hB : Bd T) (hQ : Q (.inl (some (.int (nI (bitN (fun i => 0 < worN T i) (T 12 0)))))) G) : ∀ (k i : Nat), T 12 0 - i < k → i ≤ T 12 0 → Wp E 3 0 0 kX8_worse Q G (0, 0) 9 [.ref V, .int (nI (bitN (fun i => 0 < worN T i) i)), .int (nI i)] [] := by
  obtain ⟨r0, r3, r4, r5, r6, r7, r9, r11, r12, r14, r20, r26, rL⟩ := id hR
  obtain ⟨b0, b1, b2_, b3, b4, b5, b6, b7, b8, b9, b10, b11, b12, b13, b14, b15, b16, b17, b18, b19⟩ := id hB
  intro k
  induction k with
  | zero => intro i h; exact absurd h (by omega)
  | succ k ih =>
    intro i hk hi
    refine w_iload_n dX8_worse_9 rfl ?_
    refine w_aload_n dX8_worse_10 rfl ?_
    refine w_getf dX8_worse_11 fl_X8_7 (by first | assumption | exact gs_at | (rw [gs_ne (by omega)]; (first | assumption | exact gs_at | (rw [gs_ne (by omega)]; (first | assumption | exact gs_at | (rw [gs_ne (by omega)]; (first | assumption | exact gs_at | (rw [gs_ne (by omega)]; (first | assumption | exact gs_at))))))))) rfl ?_
    refine w_iconst (v := nI 3) dX8_worse_14 (by decide) ?_
    refine w_iaload dX8_worse_15 (by first | assumption | exact gs_at | (rw [gs_ne (by omega)]; (first | assumption | exact gs_at | (rw [gs_ne (by omega)]; (first | assumption | exact gs_at | (rw [gs_ne (by omega)]; (first | assumption | exact gs_at | (rw [gs_ne (by omega)]; (first | assumption | exact gs_at))))))))) (by first | assumption | exact vp_in_nI (by omega) (by omega) | exact vp_in_nI (by assumption) (by omega)) ?_
    rw [nI_clamp (by omega)]
    first | rw [r3] | rw [r4] | rw [r5] | rw [r6] | rw [r0] | rw [r11] | rw [r12] | rw [r7 _ (by omega)] | rw [r9 _ (by omega)] | rw [r14 _ (by omega)] | rw [r20 _ (by omega)] | rw [r26 _ _ (by omega) (by omega)] | skip
    refine w_icmp_ge (tgt := 43) dX8_worse_16 (by decide) (fun c_16 => ?_) (fun c_16 => ?_)
    · try simp (disch := omega) only [nI_b2, Decidable.not_not, nI_ltI, nI_leI, nI_eq, ge_iff_le, gt_iff_lt, ne_eq, Nat.not_lt, Nat.not_le] at c_16
      refine w_iload_n dX8_worse_43 rfl ?_
      refine w_iret dX8_worse_44 rfl (Nat.le_of_ble_eq_true rfl) (Nat.le_of_ble_eq_true rfl) ?_
      have e : i = T 12 0 := by omega
      subst e
      exact hQ
    · try simp (disch := omega) only [nI_b2, Decidable.not_not, nI_ltI, nI_leI, nI_eq, ge_iff_le, gt_iff_lt, ne_eq, Nat.not_lt, Nat.not_le] at c_16
      refine w_iload_n dX8_worse_19 rfl ?_
      refine w_aload_n dX8_worse_20 rfl ?_
      refine w_iload_n dX8_worse_21 rfl ?_
      refine wV1u dX8_worse_22 lk_X8_228 rfl (by first | assumption | exact gs_at | (rw [gs_ne (by omega)]; (first | assumption | exact gs_at | (rw [gs_ne (by omega)]; (first | assumption | exact gs_at | (rw [gs_ne (by omega)]; (first | assumption | exact gs_at | (rw [gs_ne (by omega)]; (first | assumption | exact gs_at))))))))) rfl rfl (m_worseBy hV hm hR hB (by omega)) (Nat.le_of_ble_eq_true rfl) (Nat.le_of_ble_eq_true rfl) (Nat.le_of_ble_eq_true rfl) (Nat.le_of_ble_eq_true rfl) ?_
      have hb3 := b3 i
      have hw9 : worN T i ≤ T 2 i := Nat.sub_le _ _
      refine w_ifN_le (tgt := 34) dX8_worse_25 (by decide) (fun c_25 => ?_) (fun c_25 => ?_)
      · try simp (disch := omega) only [nI_b2, Decidable.not_not, nI_ltI, nI_leI, nI_eq, ge_iff_le, gt_iff_lt, ne_eq, Nat.not_lt, Nat.not_le] at c_25
        refine w_iconst (v := nI 0) dX8_worse_34 (by decide) ?_
        first | refine w_iorN dX8_worse_35 ?_ | refine w_ior dX8_worse_35 ?_
        refine w_istore_1 dX8_worse_36 rfl ?_
        first | refine w_iinc_2 dX8_worse_37 (nI_inc _) rfl ?_ | refine w_iinc_2 dX8_worse_37 rfl rfl ?_
        refine w_goto (tgt := 9) dX8_worse_40 (by decide) ?_
        have hN := ih (i + 1) (by omega) (by omega)
        first
          | (rw [bitN_t (by omega)] at hN; exact hN)
          | (rw [bitN_f (by omega)] at hN; rw [Nat.or_zero]; exact hN)
      · try simp (disch := omega) only [nI_b2, Decidable.not_not, nI_ltI, nI_leI, nI_eq, ge_iff_le, gt_iff_lt, ne_eq, Nat.not_lt, Nat.not_le] at c_25
        refine w_iconst (v := nI 1) dX8_worse_28 (by decide) ?_
        refine w_iload_n dX8_worse_29 rfl ?_
        refine w_ishlN (by omega) (p2_lt (by omega)) dX8_worse_30 ?_
        refine w_goto (tgt := 35) dX8_worse_31 (by decide) ?_
        first | refine w_iorN dX8_worse_35 ?_ | refine w_ior dX8_worse_35 ?_
        refine w_istore_1 dX8_worse_36 rfl ?_
        first | refine w_iinc_2 dX8_worse_37 (nI_inc _) rfl ?_ | refine w_iinc_2 dX8_worse_37 rfl rfl ?_
        refine w_goto (tgt := 9) dX8_worse_40 (by decide) ?_
        have hN := ih (i + 1) (by omega) (by omega)
        first
          | (rw [bitN_t (by omega)] at hN; exact hN)
          | (rw [bitN_f (by omega)] at hN; rw [Nat.or_zero]; exact hN)
theorem m_worse {E : EV} {V : Nat} {th hi ac tp ba en at_ fa dp io hm_ we sh so : Int32} {mm : Nat → Int32} {T : ST} {sd : Int32} {G : AH}  (hV : G.1 V = some (mO V th hi ac tp ba en at_ fa dp io hm_ we sh so)) (hm : G.1 (V + 1) = some (aI 750 mm)) (hR : MoR mm T sd) (hB : Bd T)  : Cu E 3 kX8_worse [.ref V] G (.int (nI (bitN (fun i => 0 < worN T i) (T 12 0)))) (gs G V (mO V (nI 0) hi ac tp ba en at_ fa dp io hm_ we sh so)) := by
  obtain ⟨r0, r3, r4, r5, r6, r7, r9, r11, r12, r14, r20, r26, rL⟩ := id hR
  obtain ⟨b0, b1, b2_, b3, b4, b5, b6, b7, b8, b9, b10, b11, b12, b13, b14, b15, b16, b17, b18, b19⟩ := id hB
  have hV2 : (gs G V (mO V (nI 0) hi ac tp ba en at_ fa dp io hm_ we sh so)).1 V = some (mO V (nI 0) hi ac tp ba en at_ fa dp io hm_ we sh so) := gs_at
  have hm2 : (gs G V (mO V (nI 0) hi ac tp ba en at_ fa dp io hm_ we sh so)).1 (V + 1) = some (aI 750 mm) := (gs_ne (by omega)).trans hm
  refine Ct.intro rfl (by decide) [.ref V, .float 0, .float 0] (by simp [Value.category]) (Nat.le_of_ble_eq_true rfl) rfl ?_
  refine w_aload_n dX8_worse_0 rfl ?_
  refine w_iconst (v := nI 0) dX8_worse_1 (by decide) ?_
  refine w_putf dX8_worse_2 fl_X8_39 (by first | assumption | exact gs_at | (rw [gs_ne (by omega)]; (first | assumption | exact gs_at | (rw [gs_ne (by omega)]; (first | assumption | exact gs_at | (rw [gs_ne (by omega)]; (first | assumption | exact gs_at | (rw [gs_ne (by omega)]; (first | assumption | exact gs_at))))))))) (by simp) rfl rfl ?_
  refine w_iconst (v := nI 0) dX8_worse_5 (by decide) ?_
  refine w_istore_1 dX8_worse_6 rfl ?_
  refine w_iconst (v := nI 0) dX8_worse_7 (by decide) ?_
  refine w_istore_2 dX8_worse_8 rfl ?_
  exact ml_worse hV2 hm2 hR hB ⟨rfl, rfl⟩ (T 12 0 + 1) 0 (by omega) (by omega)
theorem ml_mislaid {E : EV} {Q : OC → AH → Prop} {V : Nat} {th hi ac tp ba en at_ fa dp io hm_ we sh so : Int32} {mm : Nat → Int32} {T : ST} {sd : Int32} {G : AH}  (hV : G.1 V = some (mO V th hi ac tp ba en at_ fa dp io hm_ we sh so)) (hm : G.1 (V + 1) = some (aI 750 mm)) (hR : MoR mm T sd) (hB : Bd T) (hQ : Q (.inl (some (.int (nI (bitN (fun i => T 1 i ≠ T 0 i) (T 12 0)))))) G) : ∀ (k i : Nat), T 12 0 - i < k → i ≤ T 12 0 → Wp E 2 0 0 kX8_mislaid Q G (0, 0) 9 [.ref V, .int (nI (bitN (fun i => T 1 i ≠ T 0 i) i)), .int (nI i)] [] := by
  obtain ⟨r0, r3, r4, r5, r6, r7, r9, r11, r12, r14, r20, r26, rL⟩ := id hR
  obtain ⟨b0, b1, b2_, b3, b4, b5, b6, b7, b8, b9, b10, b11, b12, b13, b14, b15, b16, b17, b18, b19⟩ := id hB
  intro k
  induction k with
  | zero => intro i h; exact absurd h (by omega)
  | succ k ih =>
    intro i hk hi
    refine w_iload_n dX8_mislaid_9 rfl ?_
    refine w_aload_n dX8_mislaid_10 rfl ?_
    refine w_getf dX8_mislaid_11 fl_X8_7 (by first | assumption | exact gs_at | (rw [gs_ne (by omega)]; (first | assumption | exact gs_at | (rw [gs_ne (by omega)]; (first | assumption | exact gs_at | (rw [gs_ne (by omega)]; (first | assumption | exact gs_at | (rw [gs_ne (by omega)]; (first | assumption | exact gs_at))))))))) rfl ?_
    refine w_iconst (v := nI 3) dX8_mislaid_14 (by decide) ?_
    refine w_iaload dX8_mislaid_15 (by first | assumption | exact gs_at | (rw [gs_ne (by omega)]; (first | assumption | exact gs_at | (rw [gs_ne (by omega)]; (first | assumption | exact gs_at | (rw [gs_ne (by omega)]; (first | assumption | exact gs_at | (rw [gs_ne (by omega)]; (first | assumption | exact gs_at))))))))) (by first | assumption | exact vp_in_nI (by omega) (by omega) | exact vp_in_nI (by assumption) (by omega)) ?_
    rw [nI_clamp (by omega)]
    first | rw [r3] | rw [r4] | rw [r5] | rw [r6] | rw [r0] | rw [r11] | rw [r12] | rw [r7 _ (by omega)] | rw [r9 _ (by omega)] | rw [r14 _ (by omega)] | rw [r20 _ (by omega)] | rw [r26 _ _ (by omega) (by omega)] | skip
    refine w_icmp_ge (tgt := 50) dX8_mislaid_16 (by decide) (fun c_16 => ?_) (fun c_16 => ?_)
    · try simp (disch := omega) only [nI_b2, Decidable.not_not, nI_ltI, nI_leI, nI_eq, ge_iff_le, gt_iff_lt, ne_eq, Nat.not_lt, Nat.not_le] at c_16
      refine w_iload_n dX8_mislaid_50 rfl ?_
      refine w_iret dX8_mislaid_51 rfl (Nat.le_of_ble_eq_true rfl) (Nat.le_of_ble_eq_true rfl) ?_
      have e : i = T 12 0 := by omega
      subst e
      exact hQ
    · try simp (disch := omega) only [nI_b2, Decidable.not_not, nI_ltI, nI_leI, nI_eq, ge_iff_le, gt_iff_lt, ne_eq, Nat.not_lt, Nat.not_le] at c_16
      refine w_iload_n dX8_mislaid_19 rfl ?_
      refine w_aload_n dX8_mislaid_20 rfl ?_
      refine w_iload_n dX8_mislaid_21 rfl ?_
      refine w_iconst (v := nI 1) dX8_mislaid_22 (by decide) ?_
      refine wV2u dX8_mislaid_23 lk_X8_46 rfl (by first | assumption | exact gs_at | (rw [gs_ne (by omega)]; (first | assumption | exact gs_at | (rw [gs_ne (by omega)]; (first | assumption | exact gs_at | (rw [gs_ne (by omega)]; (first | assumption | exact gs_at | (rw [gs_ne (by omega)]; (first | assumption | exact gs_at))))))))) rfl rfl (m_of (w := 1) hV hm hR hB (by omega) (by decide)) (Nat.le_of_ble_eq_true rfl) (Nat.le_of_ble_eq_true rfl) (Nat.le_of_ble_eq_true rfl) (Nat.le_of_ble_eq_true rfl) ?_
      refine w_aload_n dX8_mislaid_26 rfl ?_
      refine w_iload_n dX8_mislaid_27 rfl ?_
      refine w_iconst (v := nI 0) dX8_mislaid_28 (by decide) ?_
      refine wV2u dX8_mislaid_29 lk_X8_46 rfl (by first | assumption | exact gs_at | (rw [gs_ne (by omega)]; (first | assumption | exact gs_at | (rw [gs_ne (by omega)]; (first | assumption | exact gs_at | (rw [gs_ne (by omega)]; (first | assumption | exact gs_at | (rw [gs_ne (by omega)]; (first | assumption | exact gs_at))))))))) rfl rfl (m_of (w := 0) hV hm hR hB (by omega) (by decide)) (Nat.le_of_ble_eq_true rfl) (Nat.le_of_ble_eq_true rfl) (Nat.le_of_ble_eq_true rfl) (Nat.le_of_ble_eq_true rfl) ?_
      have := b2_ i; have := b1 i
      refine w_icmp_eq (tgt := 41) dX8_mislaid_32 (by decide) (fun c_32 => ?_) (fun c_32 => ?_)
      · try simp (disch := omega) only [nI_b2, Decidable.not_not, nI_ltI, nI_leI, nI_eq, ge_iff_le, gt_iff_lt, ne_eq, Nat.not_lt, Nat.not_le] at c_32
        refine w_iconst (v := nI 0) dX8_mislaid_41 (by decide) ?_
        first | refine w_iorN dX8_mislaid_42 ?_ | refine w_ior dX8_mislaid_42 ?_
        refine w_istore_1 dX8_mislaid_43 rfl ?_
        first | refine w_iinc_2 dX8_mislaid_44 (nI_inc _) rfl ?_ | refine w_iinc_2 dX8_mislaid_44 rfl rfl ?_
        refine w_goto (tgt := 9) dX8_mislaid_47 (by decide) ?_
        have hN := ih (i + 1) (by omega) (by omega)
        first
          | (rw [bitN_t (by omega)] at hN; exact hN)
          | (rw [bitN_f (by omega)] at hN; rw [Nat.or_zero]; exact hN)
      · try simp (disch := omega) only [nI_b2, Decidable.not_not, nI_ltI, nI_leI, nI_eq, ge_iff_le, gt_iff_lt, ne_eq, Nat.not_lt, Nat.not_le] at c_32
        refine w_iconst (v := nI 1) dX8_mislaid_35 (by decide) ?_
        refine w_iload_n dX8_mislaid_36 rfl ?_
        refine w_ishlN (by omega) (p2_lt (by omega)) dX8_mislaid_37 ?_
        refine w_goto (tgt := 42) dX8_mislaid_38 (by decide) ?_
        first | refine w_iorN dX8_mislaid_42 ?_ | refine w_ior dX8_mislaid_42 ?_
        refine w_istore_1 dX8_mislaid_43 rfl ?_
        first | refine w_iinc_2 dX8_mislaid_44 (nI_inc _) rfl ?_ | refine w_iinc_2 dX8_mislaid_44 rfl rfl ?_
        refine w_goto (tgt := 9) dX8_mislaid_47 (by decide) ?_
        have hN := ih (i + 1) (by omega) (by omega)
        first
          | (rw [bitN_t (by omega)] at hN; exact hN)
          | (rw [bitN_f (by omega)] at hN; rw [Nat.or_zero]; exact hN)
theorem m_mislaid {E : EV} {V : Nat} {th hi ac tp ba en at_ fa dp io hm_ we sh so : Int32} {mm : Nat → Int32} {T : ST} {sd : Int32} {G : AH}  (hV : G.1 V = some (mO V th hi ac tp ba en at_ fa dp io hm_ we sh so)) (hm : G.1 (V + 1) = some (aI 750 mm)) (hR : MoR mm T sd) (hB : Bd T)  : Cu E 2 kX8_mislaid [.ref V] G (.int (nI (bitN (fun i => T 1 i ≠ T 0 i) (T 12 0)))) (gs G V (mO V (nI 0) hi ac tp ba en at_ fa dp io hm_ we sh so)) := by
  obtain ⟨r0, r3, r4, r5, r6, r7, r9, r11, r12, r14, r20, r26, rL⟩ := id hR
  obtain ⟨b0, b1, b2_, b3, b4, b5, b6, b7, b8, b9, b10, b11, b12, b13, b14, b15, b16, b17, b18, b19⟩ := id hB
  have hV2 : (gs G V (mO V (nI 0) hi ac tp ba en at_ fa dp io hm_ we sh so)).1 V = some (mO V (nI 0) hi ac tp ba en at_ fa dp io hm_ we sh so) := gs_at
  have hm2 : (gs G V (mO V (nI 0) hi ac tp ba en at_ fa dp io hm_ we sh so)).1 (V + 1) = some (aI 750 mm) := (gs_ne (by omega)).trans hm
  refine Ct.intro rfl (by decide) [.ref V, .float 0, .float 0] (by simp [Value.category]) (Nat.le_of_ble_eq_true rfl) rfl ?_
  refine w_aload_n dX8_mislaid_0 rfl ?_
  refine w_iconst (v := nI 0) dX8_mislaid_1 (by decide) ?_
  refine w_putf dX8_mislaid_2 fl_X8_39 (by first | assumption | exact gs_at | (rw [gs_ne (by omega)]; (first | assumption | exact gs_at | (rw [gs_ne (by omega)]; (first | assumption | exact gs_at | (rw [gs_ne (by omega)]; (first | assumption | exact gs_at | (rw [gs_ne (by omega)]; (first | assumption | exact gs_at))))))))) (by simp) rfl rfl ?_
  refine w_iconst (v := nI 0) dX8_mislaid_5 (by decide) ?_
  refine w_istore_1 dX8_mislaid_6 rfl ?_
  refine w_iconst (v := nI 0) dX8_mislaid_7 (by decide) ?_
  refine w_istore_2 dX8_mislaid_8 rfl ?_
  exact ml_mislaid hV2 hm2 hR hB ⟨rfl, rfl⟩ (T 12 0 + 1) 0 (by omega) (by omega)
theorem ml_clash {E : EV} {Q : OC → AH → Prop} {V : Nat} {th hi ac tp ba en at_ fa dp io hm_ we sh so : Int32} {mm : Nat → Int32} {T : ST} {sd : Int32} {G : AH}  (hV : G.1 V = some (mO V th hi ac tp ba en at_ fa dp io hm_ we sh so)) (hm : G.1 (V + 1) = some (aI 750 mm)) (hR : MoR mm T sd) (hB : Bd T) (hQ : Q (.inl (some (.int (nI (bitN (fun r => T 8 r < cntN 12 (bitN (fun i => T 0 i = r) (T 12 0))) (6)))))) G) : ∀ (k i : Nat), 6 - i < k → i ≤ 6 → Wp E 3 0 0 kX8_clash Q G (0, 0) 9 [.ref V, .int (nI (bitN (fun r => T 8 r < cntN 12 (bitN (fun i => T 0 i = r) (T 12 0))) i)), .int (nI i)] [] := by
  obtain ⟨r0, r3, r4, r5, r6, r7, r9, r11, r12, r14, r20, r26, rL⟩ := id hR
  obtain ⟨b0, b1, b2_, b3, b4, b5, b6, b7, b8, b9, b10, b11, b12, b13, b14, b15, b16, b17, b18, b19⟩ := id hB
  intro k
  induction k with
  | zero => intro i h; exact absurd h (by omega)
  | succ k ih =>
    intro i hk hi
    refine w_iload_n dX8_clash_9 rfl ?_
    refine w_bipush (v := nI 6) dX8_clash_10 (by decide) ?_
    refine w_icmp_ge (tgt := 52) dX8_clash_12 (by decide) (fun c_12 => ?_) (fun c_12 => ?_)
    · try simp (disch := omega) only [nI_b2, Decidable.not_not, nI_ltI, nI_leI, nI_eq, ge_iff_le, gt_iff_lt, ne_eq, Nat.not_lt, Nat.not_le] at c_12
      refine w_iload_n dX8_clash_52 rfl ?_
      refine w_iret dX8_clash_53 rfl (Nat.le_of_ble_eq_true rfl) (Nat.le_of_ble_eq_true rfl) ?_
      have e : i = 6 := by omega
      subst e
      exact hQ
    · try simp (disch := omega) only [nI_b2, Decidable.not_not, nI_ltI, nI_leI, nI_eq, ge_iff_le, gt_iff_lt, ne_eq, Nat.not_lt, Nat.not_le] at c_12
      refine w_iload_n dX8_clash_15 rfl ?_
      refine w_aload_n dX8_clash_16 rfl ?_
      refine w_iload_n dX8_clash_17 rfl ?_
      refine w_iconst (v := nI 0) dX8_clash_18 (by decide) ?_
      refine wV2u dX8_clash_19 lk_X8_283 rfl (by first | assumption | exact gs_at | (rw [gs_ne (by omega)]; (first | assumption | exact gs_at | (rw [gs_ne (by omega)]; (first | assumption | exact gs_at | (rw [gs_ne (by omega)]; (first | assumption | exact gs_at | (rw [gs_ne (by omega)]; (first | assumption | exact gs_at))))))))) rfl rfl (m_itemsOf (w := 0) hV hm hR hB (by decide) (fun j => by have := b1 j; omega) (by omega)) (Nat.le_of_ble_eq_true rfl) (Nat.le_of_ble_eq_true rfl) (Nat.le_of_ble_eq_true rfl) (Nat.le_of_ble_eq_true rfl) ?_
      refine wS1u dX8_clash_22 lk_X8_262 rfl (m_bits (bitN_12 _ b0)) (Nat.le_of_ble_eq_true rfl) (Nat.le_of_ble_eq_true rfl) (Nat.le_of_ble_eq_true rfl) (Nat.le_of_ble_eq_true rfl) ?_
      refine w_aload_n dX8_clash_25 rfl ?_
      refine w_getf dX8_clash_26 fl_X8_7 (by first | assumption | exact gs_at | (rw [gs_ne (by omega)]; (first | assumption | exact gs_at | (rw [gs_ne (by omega)]; (first | assumption | exact gs_at | (rw [gs_ne (by omega)]; (first | assumption | exact gs_at | (rw [gs_ne (by omega)]; (first | assumption | exact gs_at))))))))) rfl ?_
      refine w_bipush (v := nI 20) dX8_clash_29 (by decide) ?_
      refine w_iload_n dX8_clash_31 rfl ?_
      first | refine w_iaddN dX8_clash_32 ?_ | refine w_iadd dX8_clash_32 ?_
      refine w_iaload dX8_clash_33 (by first | assumption | exact gs_at | (rw [gs_ne (by omega)]; (first | assumption | exact gs_at | (rw [gs_ne (by omega)]; (first | assumption | exact gs_at | (rw [gs_ne (by omega)]; (first | assumption | exact gs_at | (rw [gs_ne (by omega)]; (first | assumption | exact gs_at))))))))) (by first | assumption | exact vp_in_nI (by omega) (by omega) | exact vp_in_nI (by assumption) (by omega)) ?_
      rw [nI_clamp (by omega)]
      first | rw [r3] | rw [r4] | rw [r5] | rw [r6] | rw [r0] | rw [r11] | rw [r12] | rw [r7 _ (by omega)] | rw [r9 _ (by omega)] | rw [r14 _ (by omega)] | rw [r20 _ (by omega)] | rw [r26 _ _ (by omega) (by omega)] | skip
      have hcn := cntN_le (bitN (fun j => T 0 j = i) (T 12 0)) 12
      have hb9 := b9 i
      refine w_icmp_le (tgt := 43) dX8_clash_34 (by decide) (fun c_34 => ?_) (fun c_34 => ?_)
      · try simp (disch := omega) only [nI_b2, Decidable.not_not, nI_ltI, nI_leI, nI_eq, ge_iff_le, gt_iff_lt, ne_eq, Nat.not_lt, Nat.not_le] at c_34
        refine w_iconst (v := nI 0) dX8_clash_43 (by decide) ?_
        first | refine w_iorN dX8_clash_44 ?_ | refine w_ior dX8_clash_44 ?_
        refine w_istore_1 dX8_clash_45 rfl ?_
        first | refine w_iinc_2 dX8_clash_46 (nI_inc _) rfl ?_ | refine w_iinc_2 dX8_clash_46 rfl rfl ?_
        refine w_goto (tgt := 9) dX8_clash_49 (by decide) ?_
        have hN := ih (i + 1) (by omega) (by omega)
        first
          | (rw [bitN_t (by omega)] at hN; exact hN)
          | (rw [bitN_f (by omega)] at hN; rw [Nat.or_zero]; exact hN)
      · try simp (disch := omega) only [nI_b2, Decidable.not_not, nI_ltI, nI_leI, nI_eq, ge_iff_le, gt_iff_lt, ne_eq, Nat.not_lt, Nat.not_le] at c_34
        refine w_iconst (v := nI 1) dX8_clash_37 (by decide) ?_
        refine w_iload_n dX8_clash_38 rfl ?_
        refine w_ishlN (by omega) (p2_lt (by omega)) dX8_clash_39 ?_
        refine w_goto (tgt := 44) dX8_clash_40 (by decide) ?_
        first | refine w_iorN dX8_clash_44 ?_ | refine w_ior dX8_clash_44 ?_
        refine w_istore_1 dX8_clash_45 rfl ?_
        first | refine w_iinc_2 dX8_clash_46 (nI_inc _) rfl ?_ | refine w_iinc_2 dX8_clash_46 rfl rfl ?_
        refine w_goto (tgt := 9) dX8_clash_49 (by decide) ?_
        have hN := ih (i + 1) (by omega) (by omega)
        first
          | (rw [bitN_t (by omega)] at hN; exact hN)
          | (rw [bitN_f (by omega)] at hN; rw [Nat.or_zero]; exact hN)
theorem m_clash {E : EV} {V : Nat} {th hi ac tp ba en at_ fa dp io hm_ we sh so : Int32} {mm : Nat → Int32} {T : ST} {sd : Int32} {G : AH}  (hV : G.1 V = some (mO V th hi ac tp ba en at_ fa dp io hm_ we sh so)) (hm : G.1 (V + 1) = some (aI 750 mm)) (hR : MoR mm T sd) (hB : Bd T)  : Cu E 3 kX8_clash [.ref V] G (.int (nI (bitN (fun r => T 8 r < cntN 12 (bitN (fun i => T 0 i = r) (T 12 0))) (6)))) (gs G V (mO V (nI 0) hi ac tp ba en at_ fa dp io hm_ we sh so)) := by
  obtain ⟨r0, r3, r4, r5, r6, r7, r9, r11, r12, r14, r20, r26, rL⟩ := id hR
  obtain ⟨b0, b1, b2_, b3, b4, b5, b6, b7, b8, b9, b10, b11, b12, b13, b14, b15, b16, b17, b18, b19⟩ := id hB
  have hV2 : (gs G V (mO V (nI 0) hi ac tp ba en at_ fa dp io hm_ we sh so)).1 V = some (mO V (nI 0) hi ac tp ba en at_ fa dp io hm_ we sh so) := gs_at
  have hm2 : (gs G V (mO V (nI 0) hi ac tp ba en at_ fa dp io hm_ we sh so)).1 (V + 1) = some (aI 750 mm) := (gs_ne (by omega)).trans hm
  refine Ct.intro rfl (by decide) [.ref V, .float 0, .float 0] (by simp [Value.category]) (Nat.le_of_ble_eq_true rfl) rfl ?_
  refine w_aload_n dX8_clash_0 rfl ?_
  refine w_iconst (v := nI 0) dX8_clash_1 (by decide) ?_
  refine w_putf dX8_clash_2 fl_X8_39 (by first | assumption | exact gs_at | (rw [gs_ne (by omega)]; (first | assumption | exact gs_at | (rw [gs_ne (by omega)]; (first | assumption | exact gs_at | (rw [gs_ne (by omega)]; (first | assumption | exact gs_at | (rw [gs_ne (by omega)]; (first | assumption | exact gs_at))))))))) (by simp) rfl rfl ?_
  refine w_iconst (v := nI 0) dX8_clash_5 (by decide) ?_
  refine w_istore_1 dX8_clash_6 rfl ?_
  refine w_iconst (v := nI 0) dX8_clash_7 (by decide) ?_
  refine w_istore_2 dX8_clash_8 rfl ?_
  exact ml_clash hV2 hm2 hR hB ⟨rfl, rfl⟩ (6 + 1) 0 (by omega) (by omega)
theorem ml_full {E : EV} {Q : OC → AH → Prop} {V : Nat} {th hi ac tp ba en at_ fa dp io hm_ we sh so : Int32} {mm : Nat → Int32} {T : ST} {sd : Int32} {G : AH}  (hV : G.1 V = some (mO V th hi ac tp ba en at_ fa dp io hm_ we sh so)) (hm : G.1 (V + 1) = some (aI 750 mm)) (hR : MoR mm T sd) (hB : Bd T) (hQ : Q (.inl (some (.int (nI (bitN (fun r => T 8 r ≤ cntN 12 (bitN (fun i => T 1 i = r) (T 12 0))) (6)))))) G) : ∀ (k i : Nat), 6 - i < k → i ≤ 6 → Wp E 3 0 0 kX8_full Q G (0, 0) 9 [.ref V, .int (nI (bitN (fun r => T 8 r ≤ cntN 12 (bitN (fun i => T 1 i = r) (T 12 0))) i)), .int (nI i)] [] := by
  obtain ⟨r0, r3, r4, r5, r6, r7, r9, r11, r12, r14, r20, r26, rL⟩ := id hR
  obtain ⟨b0, b1, b2_, b3, b4, b5, b6, b7, b8, b9, b10, b11, b12, b13, b14, b15, b16, b17, b18, b19⟩ := id hB
  intro k
  induction k with
  | zero => intro i h; exact absurd h (by omega)
  | succ k ih =>
    intro i hk hi
    refine w_iload_n dX8_full_9 rfl ?_
    refine w_bipush (v := nI 6) dX8_full_10 (by decide) ?_
    refine w_icmp_ge (tgt := 52) dX8_full_12 (by decide) (fun c_12 => ?_) (fun c_12 => ?_)
    · try simp (disch := omega) only [nI_b2, Decidable.not_not, nI_ltI, nI_leI, nI_eq, ge_iff_le, gt_iff_lt, ne_eq, Nat.not_lt, Nat.not_le] at c_12
      refine w_iload_n dX8_full_52 rfl ?_
      refine w_iret dX8_full_53 rfl (Nat.le_of_ble_eq_true rfl) (Nat.le_of_ble_eq_true rfl) ?_
      have e : i = 6 := by omega
      subst e
      exact hQ
    · try simp (disch := omega) only [nI_b2, Decidable.not_not, nI_ltI, nI_leI, nI_eq, ge_iff_le, gt_iff_lt, ne_eq, Nat.not_lt, Nat.not_le] at c_12
      refine w_iload_n dX8_full_15 rfl ?_
      refine w_aload_n dX8_full_16 rfl ?_
      refine w_iload_n dX8_full_17 rfl ?_
      refine w_iconst (v := nI 1) dX8_full_18 (by decide) ?_
      refine wV2u dX8_full_19 lk_X8_283 rfl (by first | assumption | exact gs_at | (rw [gs_ne (by omega)]; (first | assumption | exact gs_at | (rw [gs_ne (by omega)]; (first | assumption | exact gs_at | (rw [gs_ne (by omega)]; (first | assumption | exact gs_at | (rw [gs_ne (by omega)]; (first | assumption | exact gs_at))))))))) rfl rfl (m_itemsOf (w := 1) hV hm hR hB (by decide) (fun j => by have := b2_ j; omega) (by omega)) (Nat.le_of_ble_eq_true rfl) (Nat.le_of_ble_eq_true rfl) (Nat.le_of_ble_eq_true rfl) (Nat.le_of_ble_eq_true rfl) ?_
      refine wS1u dX8_full_22 lk_X8_262 rfl (m_bits (bitN_12 _ b0)) (Nat.le_of_ble_eq_true rfl) (Nat.le_of_ble_eq_true rfl) (Nat.le_of_ble_eq_true rfl) (Nat.le_of_ble_eq_true rfl) ?_
      refine w_aload_n dX8_full_25 rfl ?_
      refine w_getf dX8_full_26 fl_X8_7 (by first | assumption | exact gs_at | (rw [gs_ne (by omega)]; (first | assumption | exact gs_at | (rw [gs_ne (by omega)]; (first | assumption | exact gs_at | (rw [gs_ne (by omega)]; (first | assumption | exact gs_at | (rw [gs_ne (by omega)]; (first | assumption | exact gs_at))))))))) rfl ?_
      refine w_bipush (v := nI 20) dX8_full_29 (by decide) ?_
      refine w_iload_n dX8_full_31 rfl ?_
      first | refine w_iaddN dX8_full_32 ?_ | refine w_iadd dX8_full_32 ?_
      refine w_iaload dX8_full_33 (by first | assumption | exact gs_at | (rw [gs_ne (by omega)]; (first | assumption | exact gs_at | (rw [gs_ne (by omega)]; (first | assumption | exact gs_at | (rw [gs_ne (by omega)]; (first | assumption | exact gs_at | (rw [gs_ne (by omega)]; (first | assumption | exact gs_at))))))))) (by first | assumption | exact vp_in_nI (by omega) (by omega) | exact vp_in_nI (by assumption) (by omega)) ?_
      rw [nI_clamp (by omega)]
      first | rw [r3] | rw [r4] | rw [r5] | rw [r6] | rw [r0] | rw [r11] | rw [r12] | rw [r7 _ (by omega)] | rw [r9 _ (by omega)] | rw [r14 _ (by omega)] | rw [r20 _ (by omega)] | rw [r26 _ _ (by omega) (by omega)] | skip
      have hcn := cntN_le (bitN (fun j => T 1 j = i) (T 12 0)) 12
      have hb9 := b9 i
      refine w_icmp_lt (tgt := 43) dX8_full_34 (by decide) (fun c_34 => ?_) (fun c_34 => ?_)
      · try simp (disch := omega) only [nI_b2, Decidable.not_not, nI_ltI, nI_leI, nI_eq, ge_iff_le, gt_iff_lt, ne_eq, Nat.not_lt, Nat.not_le] at c_34
        refine w_iconst (v := nI 0) dX8_full_43 (by decide) ?_
        first | refine w_iorN dX8_full_44 ?_ | refine w_ior dX8_full_44 ?_
        refine w_istore_1 dX8_full_45 rfl ?_
        first | refine w_iinc_2 dX8_full_46 (nI_inc _) rfl ?_ | refine w_iinc_2 dX8_full_46 rfl rfl ?_
        refine w_goto (tgt := 9) dX8_full_49 (by decide) ?_
        have hN := ih (i + 1) (by omega) (by omega)
        first
          | (rw [bitN_t (by omega)] at hN; exact hN)
          | (rw [bitN_f (by omega)] at hN; rw [Nat.or_zero]; exact hN)
      · try simp (disch := omega) only [nI_b2, Decidable.not_not, nI_ltI, nI_leI, nI_eq, ge_iff_le, gt_iff_lt, ne_eq, Nat.not_lt, Nat.not_le] at c_34
        refine w_iconst (v := nI 1) dX8_full_37 (by decide) ?_
        refine w_iload_n dX8_full_38 rfl ?_
        refine w_ishlN (by omega) (p2_lt (by omega)) dX8_full_39 ?_
        refine w_goto (tgt := 44) dX8_full_40 (by decide) ?_
        first | refine w_iorN dX8_full_44 ?_ | refine w_ior dX8_full_44 ?_
        refine w_istore_1 dX8_full_45 rfl ?_
        first | refine w_iinc_2 dX8_full_46 (nI_inc _) rfl ?_ | refine w_iinc_2 dX8_full_46 rfl rfl ?_
        refine w_goto (tgt := 9) dX8_full_49 (by decide) ?_
        have hN := ih (i + 1) (by omega) (by omega)
        first
          | (rw [bitN_t (by omega)] at hN; exact hN)
          | (rw [bitN_f (by omega)] at hN; rw [Nat.or_zero]; exact hN)
theorem m_full {E : EV} {V : Nat} {th hi ac tp ba en at_ fa dp io hm_ we sh so : Int32} {mm : Nat → Int32} {T : ST} {sd : Int32} {G : AH}  (hV : G.1 V = some (mO V th hi ac tp ba en at_ fa dp io hm_ we sh so)) (hm : G.1 (V + 1) = some (aI 750 mm)) (hR : MoR mm T sd) (hB : Bd T)  : Cu E 3 kX8_full [.ref V] G (.int (nI (bitN (fun r => T 8 r ≤ cntN 12 (bitN (fun i => T 1 i = r) (T 12 0))) (6)))) (gs G V (mO V (nI 0) hi ac tp ba en at_ fa dp io hm_ we sh so)) := by
  obtain ⟨r0, r3, r4, r5, r6, r7, r9, r11, r12, r14, r20, r26, rL⟩ := id hR
  obtain ⟨b0, b1, b2_, b3, b4, b5, b6, b7, b8, b9, b10, b11, b12, b13, b14, b15, b16, b17, b18, b19⟩ := id hB
  have hV2 : (gs G V (mO V (nI 0) hi ac tp ba en at_ fa dp io hm_ we sh so)).1 V = some (mO V (nI 0) hi ac tp ba en at_ fa dp io hm_ we sh so) := gs_at
  have hm2 : (gs G V (mO V (nI 0) hi ac tp ba en at_ fa dp io hm_ we sh so)).1 (V + 1) = some (aI 750 mm) := (gs_ne (by omega)).trans hm
  refine Ct.intro rfl (by decide) [.ref V, .float 0, .float 0] (by simp [Value.category]) (Nat.le_of_ble_eq_true rfl) rfl ?_
  refine w_aload_n dX8_full_0 rfl ?_
  refine w_iconst (v := nI 0) dX8_full_1 (by decide) ?_
  refine w_putf dX8_full_2 fl_X8_39 (by first | assumption | exact gs_at | (rw [gs_ne (by omega)]; (first | assumption | exact gs_at | (rw [gs_ne (by omega)]; (first | assumption | exact gs_at | (rw [gs_ne (by omega)]; (first | assumption | exact gs_at | (rw [gs_ne (by omega)]; (first | assumption | exact gs_at))))))))) (by simp) rfl rfl ?_
  refine w_iconst (v := nI 0) dX8_full_5 (by decide) ?_
  refine w_istore_1 dX8_full_6 rfl ?_
  refine w_iconst (v := nI 0) dX8_full_7 (by decide) ?_
  refine w_istore_2 dX8_full_8 rfl ?_
  exact ml_full hV2 hm2 hR hB ⟨rfl, rfl⟩ (6 + 1) 0 (by omega) (by omega)
