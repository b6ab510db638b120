/-! the model: the deed; the tape; undone, the image -/
theorem m_begins {E : EV} {V : Nat} {th hi ac tp ba en at_ fa dp io hm_ we sh so : Int32} {G : AH} (hV : G.1 V = some (mO V th hi ac tp ba en at_ fa dp io hm_ we sh so)) : Cn E 1 kX8_begins [.ref V] G (gs G V (mO V th hi ac (nI 0) (-1) (tp) (nI 0) (-1) (nI 0) io hm_ we sh so)) := by
  refine Ct.intro rfl (by decide) [.ref V] (by simp [Value.category]) (Nat.le_of_ble_eq_true rfl) rfl ?_
  refine w_aload_n dX8_begins_0 rfl ?_
  refine w_iconst (v := (-1)) dX8_begins_1 (by decide) ?_
  refine w_putf dX8_begins_2 fl_X8_25 (by first | assumption | exact gs_at | (rw [gs_ne (by omega)]; (first | assumption | exact gs_at | (rw [gs_ne (by omega)]; (first | assumption | exact gs_at | (rw [gs_ne (by omega)]; (first | assumption | exact gs_at | (rw [gs_ne (by omega)]; (first | assumption | exact gs_at))))))))) (by simp) rfl rfl ?_
  refine w_aload_n dX8_begins_5 rfl ?_
  refine w_iconst (v := (-1)) dX8_begins_6 (by decide) ?_
  refine w_putf dX8_begins_7 fl_X8_53 (by first | assumption | exact gs_at | (rw [gs_ne (by omega)]; (first | assumption | exact gs_at | (rw [gs_ne (by omega)]; (first | assumption | exact gs_at | (rw [gs_ne (by omega)]; (first | assumption | exact gs_at | (rw [gs_ne (by omega)]; (first | assumption | exact gs_at))))))))) (by simp) rfl rfl ?_
  refine w_aload_n dX8_begins_10 rfl ?_
  refine w_aload_n dX8_begins_11 rfl ?_
  refine w_getf dX8_begins_12 fl_X8_50 (by first | assumption | exact gs_at | (rw [gs_ne (by omega)]; (first | assumption | exact gs_at | (rw [gs_ne (by omega)]; (first | assumption | exact gs_at | (rw [gs_ne (by omega)]; (first | assumption | exact gs_at | (rw [gs_ne (by omega)]; (first | assumption | exact gs_at))))))))) rfl ?_
  refine w_putf dX8_begins_15 fl_X8_59 (by first | assumption | exact gs_at | (rw [gs_ne (by omega)]; (first | assumption | exact gs_at | (rw [gs_ne (by omega)]; (first | assumption | exact gs_at | (rw [gs_ne (by omega)]; (first | assumption | exact gs_at | (rw [gs_ne (by omega)]; (first | assumption | exact gs_at))))))))) (by simp) rfl rfl ?_
  refine w_aload_n dX8_begins_18 rfl ?_
  refine w_iconst (v := nI 0) dX8_begins_19 (by decide) ?_
  refine w_putf dX8_begins_20 fl_X8_50 (by first | assumption | exact gs_at | (rw [gs_ne (by omega)]; (first | assumption | exact gs_at | (rw [gs_ne (by omega)]; (first | assumption | exact gs_at | (rw [gs_ne (by omega)]; (first | assumption | exact gs_at | (rw [gs_ne (by omega)]; (first | assumption | exact gs_at))))))))) (by simp) rfl rfl ?_
  refine w_aload_n dX8_begins_23 rfl ?_
  refine w_iconst (v := nI 0) dX8_begins_24 (by decide) ?_
  refine w_putf dX8_begins_25 fl_X8_56 (by first | assumption | exact gs_at | (rw [gs_ne (by omega)]; (first | assumption | exact gs_at | (rw [gs_ne (by omega)]; (first | assumption | exact gs_at | (rw [gs_ne (by omega)]; (first | assumption | exact gs_at | (rw [gs_ne (by omega)]; (first | assumption | exact gs_at))))))))) (by simp) rfl rfl ?_
  refine w_aload_n dX8_begins_28 rfl ?_
  refine w_iconst (v := nI 0) dX8_begins_29 (by decide) ?_
  refine w_putf dX8_begins_30 fl_X8_132 (by first | assumption | exact gs_at | (rw [gs_ne (by omega)]; (first | assumption | exact gs_at | (rw [gs_ne (by omega)]; (first | assumption | exact gs_at | (rw [gs_ne (by omega)]; (first | assumption | exact gs_at | (rw [gs_ne (by omega)]; (first | assumption | exact gs_at))))))))) (by simp) rfl rfl ?_
  refine w_vret dX8_begins_33 rfl (Nat.le_of_ble_eq_true rfl) (Nat.le_of_ble_eq_true rfl) ?_
  exact ⟨rfl, by simp only [gs_gs]; rfl⟩
theorem m_deed {E : EV} {V : Nat} {th hi ac tp ba en at_ fa dp io hm_ we sh so : Int32} {mm : Nat → Int32} {T : ST} {sd : Int32} {G : AH} {f : Nat → Nat} {tn : Nat} (hV : G.1 V = some (mO V th hi ac tp ba en at_ fa dp io hm_ we sh so)) (hm : G.1 (V + 1) = some (aI 750 mm)) (hR : MoR mm T sd) (hB : Bd T) (htp : tp = nI tn) (htn : tn ≤ 400) (hf : ∀ i, f i < 256) (hT5 : G.1 (V + 5) = some (aI 400 (fun i => nI (f i)))) (ha3 : ∃ a : Nat → Int32, G.1 (V + 3) = some (aI 350 a)) : Ci E 56 kX8_deed [.ref V] G (fun r G1 => r = (if dedK f tn T = 0 then nI (T 12 1 + 1) else nI 0) ∧ ∃ p2 a nn, G1 = gs (gs (gs G (V + 3) (aI 350 a)) (V + 1) (aI 750 nn)) V (mO V (nI (dedK f tn T)) hi (if dedK f tn T = 0 then nI 0 else ac) (nI 0) (-1) (nI tn) (nI p2) (dedW f tn T) (nI 0) io hm_ we sh so) ∧ Keep mm nn ∧ (dedK f tn T = 0 → MoR nn (dedT f tn T) sd) ∧ (¬ dedK f tn T = 0 → nn = mm)) := by
  obtain ⟨r0, r3, r4, r5, r6, r7, r9, r11, r12, r14, r20, r26, rL⟩ := id hR
  obtain ⟨b0, b1, b2_, b3, b4, b5, b6, b7, b8, b9, b10, b11, b12, b13, b14, b15, b16, b17, b18, b19⟩ := id hB
  subst htp
  have b13_ : T 12 1 ≤ 12 := b13
  refine Ct.intro rfl (by decide) [.ref V, .float 0] (by simp [Value.category]) (Nat.le_of_ble_eq_true rfl) rfl ?_
  refine w_aload_n dX8_deed_0 rfl ?_
  refine wV0d dX8_deed_1 lk_X8_145 rfl (by first | assumption | exact gs_at | (rw [gs_ne (by omega)]; (first | assumption | exact gs_at | (rw [gs_ne (by omega)]; (first | assumption | exact gs_at | (rw [gs_ne (by omega)]; (first | assumption | exact gs_at | (rw [gs_ne (by omega)]; (first | assumption | exact gs_at))))))))) rfl rfl (m_putsAside hV hm ha3) (Nat.le_of_ble_eq_true rfl) (Nat.le_of_ble_eq_true rfl) (Nat.le_of_ble_eq_true rfl) (Nat.le_of_ble_eq_true rfl) (fun G1 h_1 => ?_)
  obtain ⟨a, hG1, ha⟩ := h_1
  subst hG1
  have hV1 : (gs G (V + 3) (aI 350 a)).1 V = some (mO V th hi ac (nI tn) ba en at_ fa dp io hm_ we sh so) := (gs_ne (by omega)).trans hV
  have hm1 : (gs G (V + 3) (aI 350 a)).1 (V + 1) = some (aI 750 mm) := (gs_ne (by omega)).trans hm
  have hT1 : (gs G (V + 3) (aI 350 a)).1 (V + 5) = some (aI 400 (fun i => nI (f i))) := (gs_ne (by omega)).trans hT5
  refine w_aload_n dX8_deed_4 rfl ?_
  refine wV0n dX8_deed_5 lk_X8_148 rfl (by first | assumption | exact gs_at | (rw [gs_ne (by omega)]; (first | assumption | exact gs_at | (rw [gs_ne (by omega)]; (first | assumption | exact gs_at | (rw [gs_ne (by omega)]; (first | assumption | exact gs_at | (rw [gs_ne (by omega)]; (first | assumption | exact gs_at))))))))) rfl rfl (m_begins hV1) (Nat.le_of_ble_eq_true rfl) (Nat.le_of_ble_eq_true rfl) (Nat.le_of_ble_eq_true rfl) (Nat.le_of_ble_eq_true rfl) ?_
  refine w_aload_n dX8_deed_8 rfl ?_
  refine w_iconst (v := nI 0) dX8_deed_9 (by decide) ?_
  refine wV1i dX8_deed_10 lk_X8_151 rfl (by first | assumption | exact gs_at | (rw [gs_ne (by omega)]; (first | assumption | exact gs_at | (rw [gs_ne (by omega)]; (first | assumption | exact gs_at | (rw [gs_ne (by omega)]; (first | assumption | exact gs_at | (rw [gs_ne (by omega)]; (first | assumption | exact gs_at))))))))) rfl rfl (m_readD (T := T) (mm := mm) (y := f) (n := tn) gs_at rfl ((gs_ne (by omega)).trans hT1) htn hf ((gs_ne (by omega)).trans hm1) hR hB) (Nat.le_of_ble_eq_true rfl) (Nat.le_of_ble_eq_true rfl) (Nat.le_of_ble_eq_true rfl) (Nat.le_of_ble_eq_true rfl) (fun r_10 G2 h_10 => ?_)
  obtain ⟨p2, nn, hp2, hG2, hK2, hM2⟩ := h_10
  rw [gs_comm (a := V) (b := V + 1) (by omega), gs_gs] at hG2
  subst hG2
  have hV3 : (gs (gs (gs G (V + 3) (aI 350 a)) (V + 1) (aI 750 nn)) V (mO V th hi ac (nI 0) (-1) (nI tn) (nI p2) (rdWrong f tn (rdText f tn T)) (nI 0) io hm_ we sh so)).1 V = _ := gs_at
  refine w_istore_1 dX8_deed_13 rfl ?_
  refine w_aload_n dX8_deed_14 rfl ?_
  refine w_aload_n dX8_deed_15 rfl ?_
  refine w_getf dX8_deed_16 fl_X8_25 (by first | assumption | exact gs_at | (rw [gs_ne (by omega)]; (first | assumption | exact gs_at | (rw [gs_ne (by omega)]; (first | assumption | exact gs_at | (rw [gs_ne (by omega)]; (first | assumption | exact gs_at | (rw [gs_ne (by omega)]; (first | assumption | exact gs_at))))))))) rfl ?_
  refine w_iconst (v := (-1)) dX8_deed_19 (by decide) ?_
  refine w_icmp_eq (tgt := 27) dX8_deed_20 (by decide) (fun c_20 => ?_) (fun c_20 => ?_)
  · skip
    refine w_aload_n dX8_deed_27 rfl ?_
    have r0n : nn 0 = nI (T 12 1) := by rw [(hM2 c_20).1, rdText_t]
    refine w_getf dX8_deed_28 fl_X8_7 (by first | assumption | exact gs_at | (rw [gs_ne (by omega)]; (first | assumption | exact gs_at | (rw [gs_ne (by omega)]; (first | assumption | exact gs_at | (rw [gs_ne (by omega)]; (first | assumption | exact gs_at | (rw [gs_ne (by omega)]; (first | assumption | exact gs_at))))))))) rfl ?_
    refine w_iconst (v := nI 0) dX8_deed_31 (by decide) ?_
    refine w_iaload dX8_deed_32 (by first | assumption | exact gs_at | (rw [gs_ne (by omega)]; (first | assumption | exact gs_at | (rw [gs_ne (by omega)]; (first | assumption | exact gs_at | (rw [gs_ne (by omega)]; (first | assumption | exact gs_at | (rw [gs_ne (by omega)]; (first | assumption | exact gs_at))))))))) (by first | assumption | exact vp_in_nI (by omega) (by omega) | exact vp_in_nI (by assumption) (by omega)) ?_
    rw [nI_clamp (by omega)]
    rw [r0n]
    refine w_bipush (v := nI 12) dX8_deed_33 (by decide) ?_
    refine w_icmp_ne (tgt := 42) dX8_deed_35 (by decide) (fun c_35 => ?_) (fun c_35 => ?_)
    · skip
      refine w_iconst (v := nI 0) dX8_deed_42 (by decide) ?_
      have kx : dedK f tn T = 0 := by rw [dedK, xk2, if_pos (show dedW f tn T = -1 from c_20), if_pos (by have h9 : ¬ T 12 1 = 12 := (fun h => c_35 (by rw [h])); omega)]
      refine w_putf dX8_deed_43 fl_X8_39 (by first | assumption | exact gs_at | (rw [gs_ne (by omega)]; (first | assumption | exact gs_at | (rw [gs_ne (by omega)]; (first | assumption | exact gs_at | (rw [gs_ne (by omega)]; (first | assumption | exact gs_at | (rw [gs_ne (by omega)]; (first | assumption | exact gs_at))))))))) (by simp) rfl rfl ?_
      refine w_aload_n dX8_deed_46 rfl ?_
      refine w_getf dX8_deed_47 fl_X8_39 (by first | assumption | exact gs_at | (rw [gs_ne (by omega)]; (first | assumption | exact gs_at | (rw [gs_ne (by omega)]; (first | assumption | exact gs_at | (rw [gs_ne (by omega)]; (first | assumption | exact gs_at | (rw [gs_ne (by omega)]; (first | assumption | exact gs_at))))))))) rfl ?_
      refine w_ifN_le (tgt := 59) dX8_deed_50 (by decide) (fun c_50 => ?_) (fun c_50 => ?_)
      · skip
        refine w_aload_n dX8_deed_59 rfl ?_
        refine w_getf dX8_deed_60 fl_X8_7 (by first | assumption | exact gs_at | (rw [gs_ne (by omega)]; (first | assumption | exact gs_at | (rw [gs_ne (by omega)]; (first | assumption | exact gs_at | (rw [gs_ne (by omega)]; (first | assumption | exact gs_at | (rw [gs_ne (by omega)]; (first | assumption | exact gs_at))))))))) rfl ?_
        refine w_iconst (v := nI 0) dX8_deed_63 (by decide) ?_
        refine w_dup2 dX8_deed_64 rfl rfl ?_
        refine w_iaload dX8_deed_65 (by first | assumption | exact gs_at | (rw [gs_ne (by omega)]; (first | assumption | exact gs_at | (rw [gs_ne (by omega)]; (first | assumption | exact gs_at | (rw [gs_ne (by omega)]; (first | assumption | exact gs_at | (rw [gs_ne (by omega)]; (first | assumption | exact gs_at))))))))) (by first | assumption | exact vp_in_nI (by omega) (by omega) | exact vp_in_nI (by assumption) (by omega)) ?_
        rw [nI_clamp (by omega)]
        rw [r0n]
        refine w_iconst (v := nI 1) dX8_deed_66 (by decide) ?_
        first | refine w_iaddN dX8_deed_67 ?_ | refine w_iadd dX8_deed_67 ?_
        refine w_iastore dX8_deed_68 (by first | assumption | exact gs_at | (rw [gs_ne (by omega)]; (first | assumption | exact gs_at | (rw [gs_ne (by omega)]; (first | assumption | exact gs_at | (rw [gs_ne (by omega)]; (first | assumption | exact gs_at | (rw [gs_ne (by omega)]; (first | assumption | exact gs_at))))))))) (by first | assumption | exact vp_in_nI (by omega) (by omega) | exact vp_in_nI (by assumption) (by omega)) ?_
        rw [nI_clamp (by omega)]
        refine w_aload_n dX8_deed_69 rfl ?_
        refine w_iconst (v := nI 0) dX8_deed_70 (by decide) ?_
        refine w_putf dX8_deed_71 fl_X8_158 (by first | assumption | exact gs_at | (rw [gs_ne (by omega)]; (first | assumption | exact gs_at | (rw [gs_ne (by omega)]; (first | assumption | exact gs_at | (rw [gs_ne (by omega)]; (first | assumption | exact gs_at | (rw [gs_ne (by omega)]; (first | assumption | exact gs_at))))))))) (by simp) rfl rfl ?_
        refine w_aload_n dX8_deed_74 rfl ?_
        refine w_getf dX8_deed_75 fl_X8_7 (by first | assumption | exact gs_at | (rw [gs_ne (by omega)]; (first | assumption | exact gs_at | (rw [gs_ne (by omega)]; (first | assumption | exact gs_at | (rw [gs_ne (by omega)]; (first | assumption | exact gs_at | (rw [gs_ne (by omega)]; (first | assumption | exact gs_at))))))))) rfl ?_
        refine w_iconst (v := nI 0) dX8_deed_78 (by decide) ?_
        refine w_iaload dX8_deed_79 (by first | assumption | exact gs_at | (rw [gs_ne (by omega)]; (first | assumption | exact gs_at | (rw [gs_ne (by omega)]; (first | assumption | exact gs_at | (rw [gs_ne (by omega)]; (first | assumption | exact gs_at | (rw [gs_ne (by omega)]; (first | assumption | exact gs_at))))))))) (by first | assumption | exact vp_in_nI (by omega) (by omega) | exact vp_in_nI (by assumption) (by omega)) ?_
        rw [nI_clamp (by omega)]
        rw [upd_at]
        refine w_iret dX8_deed_80 rfl (Nat.le_of_ble_eq_true rfl) (Nat.le_of_ble_eq_true rfl) ?_
        refine ⟨_, rfl, by rw [kx, if_pos rfl], p2, a, upd nn 0 (nI (T 12 1 + 1)), ?_, hK2.tr (Keep.up (by decide) (by decide) (by decide)), fun _ => (hM2 c_20).s1, fun h => absurd kx h⟩
        simp only [kx, if_true]
        rw [gs_comm (a := V) (b := V + 1) (by omega)]
        simp only [gs_gs]
        rw [gs_comm (a := V) (b := V + 1) (by omega)]
        simp only [gs_gs]
        rfl
      · skip
        exact absurd c_50 (by decide)
    · skip
      refine w_iconst (v := nI 2) dX8_deed_38 (by decide) ?_
      refine w_goto (tgt := 43) dX8_deed_39 (by decide) ?_
      have kx : dedK f tn T = 2 := by rw [dedK, xk2, if_pos (show dedW f tn T = -1 from c_20), if_neg (by have h9 : T 12 1 = 12 := (nI_eq (by omega) (by omega)).mp c_35; omega)]
      refine w_putf dX8_deed_43 fl_X8_39 (by first | assumption | exact gs_at | (rw [gs_ne (by omega)]; (first | assumption | exact gs_at | (rw [gs_ne (by omega)]; (first | assumption | exact gs_at | (rw [gs_ne (by omega)]; (first | assumption | exact gs_at | (rw [gs_ne (by omega)]; (first | assumption | exact gs_at))))))))) (by simp) rfl rfl ?_
      refine w_aload_n dX8_deed_46 rfl ?_
      refine w_getf dX8_deed_47 fl_X8_39 (by first | assumption | exact gs_at | (rw [gs_ne (by omega)]; (first | assumption | exact gs_at | (rw [gs_ne (by omega)]; (first | assumption | exact gs_at | (rw [gs_ne (by omega)]; (first | assumption | exact gs_at | (rw [gs_ne (by omega)]; (first | assumption | exact gs_at))))))))) rfl ?_
      refine w_ifN_le (tgt := 59) dX8_deed_50 (by decide) (fun c_50 => ?_) (fun c_50 => ?_)
      · skip
        exact absurd c_50 (by decide)
      · skip
        refine w_aload_n dX8_deed_53 rfl ?_
        refine wV0d dX8_deed_54 lk_X8_155 rfl (by first | assumption | exact gs_at | (rw [gs_ne (by omega)]; (first | assumption | exact gs_at | (rw [gs_ne (by omega)]; (first | assumption | exact gs_at | (rw [gs_ne (by omega)]; (first | assumption | exact gs_at | (rw [gs_ne (by omega)]; (first | assumption | exact gs_at))))))))) rfl rfl (m_comesBack (mm := a) (av := nn) gs_at ((gs_ne (by omega)).trans ((gs_ne (by omega)).trans gs_at)) ((gs_ne (by omega)).trans ((gs_ne (by omega)).trans ((gs_ne (by omega)).trans gs_at)))) (Nat.le_of_ble_eq_true rfl) (Nat.le_of_ble_eq_true rfl) (Nat.le_of_ble_eq_true rfl) (Nat.le_of_ble_eq_true rfl) (fun G3 h_54 => ?_)
        obtain ⟨n3, hG3, h31, h32⟩ := h_54
        have e3 : n3 = mm := by funext j; by_cases hj : j < 350; exact (h31 j hj).trans (ha j hj); exact (h32 j (by omega)).trans (hK2.2.2 j (by omega))
        rw [e3] at hG3
        subst hG3
        refine w_iconst (v := nI 0) dX8_deed_57 (by decide) ?_
        refine w_iret dX8_deed_58 rfl (Nat.le_of_ble_eq_true rfl) (Nat.le_of_ble_eq_true rfl) ?_
        refine ⟨_, rfl, by rw [kx]; rfl, p2, a, mm, ?_, Keep.rf, fun h => absurd (kx.symm.trans h) (by decide), fun _ => rfl⟩
        rw [kx]
        rw [gs_gs, gs_comm (a := V) (b := V + 1) (by omega), gs_gs]
        rfl
  · skip
    refine w_iconst (v := nI 1) dX8_deed_23 (by decide) ?_
    refine w_goto (tgt := 43) dX8_deed_24 (by decide) ?_
    have kx : dedK f tn T = 1 := by rw [dedK, xk2, if_neg (show ¬ dedW f tn T = -1 from c_20)]
    refine w_putf dX8_deed_43 fl_X8_39 (by first | assumption | exact gs_at | (rw [gs_ne (by omega)]; (first | assumption | exact gs_at | (rw [gs_ne (by omega)]; (first | assumption | exact gs_at | (rw [gs_ne (by omega)]; (first | assumption | exact gs_at | (rw [gs_ne (by omega)]; (first | assumption | exact gs_at))))))))) (by simp) rfl rfl ?_
    refine w_aload_n dX8_deed_46 rfl ?_
    refine w_getf dX8_deed_47 fl_X8_39 (by first | assumption | exact gs_at | (rw [gs_ne (by omega)]; (first | assumption | exact gs_at | (rw [gs_ne (by omega)]; (first | assumption | exact gs_at | (rw [gs_ne (by omega)]; (first | assumption | exact gs_at | (rw [gs_ne (by omega)]; (first | assumption | exact gs_at))))))))) rfl ?_
    refine w_ifN_le (tgt := 59) dX8_deed_50 (by decide) (fun c_50 => ?_) (fun c_50 => ?_)
    · skip
      exact absurd c_50 (by decide)
    · skip
      refine w_aload_n dX8_deed_53 rfl ?_
      refine wV0d dX8_deed_54 lk_X8_155 rfl (by first | assumption | exact gs_at | (rw [gs_ne (by omega)]; (first | assumption | exact gs_at | (rw [gs_ne (by omega)]; (first | assumption | exact gs_at | (rw [gs_ne (by omega)]; (first | assumption | exact gs_at | (rw [gs_ne (by omega)]; (first | assumption | exact gs_at))))))))) rfl rfl (m_comesBack (mm := a) (av := nn) gs_at ((gs_ne (by omega)).trans ((gs_ne (by omega)).trans gs_at)) ((gs_ne (by omega)).trans ((gs_ne (by omega)).trans ((gs_ne (by omega)).trans gs_at)))) (Nat.le_of_ble_eq_true rfl) (Nat.le_of_ble_eq_true rfl) (Nat.le_of_ble_eq_true rfl) (Nat.le_of_ble_eq_true rfl) (fun G3 h_54 => ?_)
      obtain ⟨n3, hG3, h31, h32⟩ := h_54
      have e3 : n3 = mm := by funext j; by_cases hj : j < 350; exact (h31 j hj).trans (ha j hj); exact (h32 j (by omega)).trans (hK2.2.2 j (by omega))
      rw [e3] at hG3
      subst hG3
      refine w_iconst (v := nI 0) dX8_deed_57 (by decide) ?_
      refine w_iret dX8_deed_58 rfl (Nat.le_of_ble_eq_true rfl) (Nat.le_of_ble_eq_true rfl) ?_
      refine ⟨_, rfl, by rw [kx]; rfl, p2, a, mm, ?_, Keep.rf, fun h => absurd (kx.symm.trans h) (by decide), fun _ => rfl⟩
      rw [kx]
      rw [gs_gs, gs_comm (a := V) (b := V + 1) (by omega), gs_gs]
      rfl
