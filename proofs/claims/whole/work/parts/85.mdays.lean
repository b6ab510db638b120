/-! the model: days -/
/-- what is asked of the law for an item -/
def AskC (E : EV) (D : LD) : Prop := ∀ {V k : Nat} {th hi ac tp ba en at_ fa dp io hm_ we sh so : Int32} {mm : Nat → Int32} {T : ST} {sd : Int32} {G : AH}, G.1 V = some (mO V th hi ac tp ba en at_ fa dp io hm_ we sh so) → G.1 (V + 1) = some (aI 750 mm) → MoR mm T sd → Bd T → LwR mm D → (∃ a : Nat → Int32, G.1 (V + 6) = some (aI 7 a)) → k < T 12 0 → Cd E 56 kX8_asks [.ref V, .int (nI k)] G (fun G1 => ∃ (a : Nat → Int32) (ba2 en2 at2 dp2 io2 hm2 : Int32), G1 = gs (gs G (V + 6) (aI 7 a)) V (mO V th hi ac tp (ba2) (en2) (at2) fa (dp2) (io2) (hm2) (nI (tlN D T k D.2.1 0)) (nI (tlN D T k D.2.1 1)) (nI (tlN D T k D.2.1 2))))
theorem ml_moves {E : EV} {Q : OC → AH → Prop} {V : Nat} {th hi ac tp fa : Int32} {mm : Nat → Int32} {T : ST} {sd : Int32} {G : AH} {D : LD} (hAsk : AskC E D) (hD : WFD D) (hm0 : LwR mm D) (hB : Bd T) (hQ : ∀ (a nn : Nat → Int32) (ba en at_ dp io hm_ we sh so : Int32), MoR nn (itsT D T (T 12 0)) sd → Keep mm nn → Q (.inl none) (gs (gs (gs G (V + 6) (aI 7 (a))) (V + 1) (aI 750 (nn))) V (mO V th hi ac tp ba en at_ fa dp io hm_ we sh so))) : ∀ (k i : Nat) (a nn : Nat → Int32) (ba en at_ dp io hm_ we sh so : Int32) (z : Value), T 12 0 - i < k → i ≤ T 12 0 → MoR nn (itsT D T i) sd → Keep mm nn → Wp E 57 0 0 kX8_moves Q (gs (gs (gs G (V + 6) (aI 7 (a))) (V + 1) (aI 750 (nn))) V (mO V th hi ac tp ba en at_ fa dp io hm_ we sh so)) (0, 0) 2 [.ref V, .int (nI i), z] [] := by
  intro k
  induction k with
  | zero => intro i a nn ba en at_ dp io hm_ we sh so z h; exact absurd h (by omega)
  | succ k ih =>
    intro i a nn ba en at_ dp io hm_ we sh so z hk hi4 hRn hKn
    have hV2 : (gs (gs (gs G (V + 6) (aI 7 (a))) (V + 1) (aI 750 (nn))) V (mO V th hi ac tp ba en at_ fa dp io hm_ we sh so)).1 V = some (mO V th hi ac tp ba en at_ fa dp io hm_ we sh so) := gs_at
    have hm2 : (gs (gs (gs G (V + 6) (aI 7 (a))) (V + 1) (aI 750 (nn))) V (mO V th hi ac tp ba en at_ fa dp io hm_ we sh so)).1 (V + 1) = some (aI 750 nn) := (gs_ne (by omega)).trans gs_at
    have h62 : ∃ b9 : Nat → Int32, (gs (gs (gs G (V + 6) (aI 7 (a))) (V + 1) (aI 750 (nn))) V (mO V th hi ac tp ba en at_ fa dp io hm_ we sh so)).1 (V + 6) = some (aI 7 b9) := ⟨a, (gs_ne (by omega)).trans ((gs_ne (by omega)).trans gs_at)⟩
    have hBn : Bd (itsT D T i) := hB.its i hi4
    have e12 : ∀ j, itsT D T i 12 j = T 12 j := fun j => itsT_ne D T (by decide) (by decide) (by decide) j i
    obtain ⟨r0, r3, r4, r5, r6, r7, r9, r11, r12, r14, r20, r26, rL⟩ := id hRn
    rw [e12] at r3
    have h12 := hB.1
    have hb2 := hBn.2.2.1 i; have hb3 := hBn.2.2.2.1 i; have hb8 := hBn.2.2.2.2.2.2.2.2.1 (itsT D T i 1 i)
    have ht0 := tlN_le hD (itsT D T i) i 0 D.2.1 (Nat.le_refl _); have ht1 := tlN_le hD (itsT D T i) i 1 D.2.1 (Nat.le_refl _); have ht2 := tlN_le hD (itsT D T i) i 2 D.2.1 (Nat.le_refl _); have hd2 := hD.2.1
    refine w_iload_n dX8_moves_2 rfl ?_
    refine w_aload_n dX8_moves_3 rfl ?_
    refine w_getf dX8_moves_4 fl_X8_7 (by first | assumption | exact gs_at | (rw [gs_ne (by omega)]; (first | assumption | exact gs_at | (rw [gs_ne (by omega)]; (first | assumption | exact gs_at | (rw [gs_ne (by omega)]; (first | assumption | exact gs_at | (rw [gs_ne (by omega)]; (first | assumption | exact gs_at))))))))) rfl ?_
    refine w_iconst (v := nI 3) dX8_moves_7 (by decide) ?_
    refine w_iaload dX8_moves_8 (by first | assumption | exact gs_at | (rw [gs_ne (by omega)]; (first | assumption | exact gs_at | (rw [gs_ne (by omega)]; (first | assumption | exact gs_at | (rw [gs_ne (by omega)]; (first | assumption | exact gs_at | (rw [gs_ne (by omega)]; (first | assumption | exact gs_at))))))))) (by first | assumption | exact vp_in_nI (by omega) (by omega) | exact vp_in_nI (by assumption) (by omega)) ?_
    rw [nI_clamp (by omega)]
    rw [r3]
    refine w_icmp_ge (tgt := 95) dX8_moves_9 (by decide) (fun c_9 => ?_) (fun c_9 => ?_)
    · try simp (disch := omega) only [nI_b2, Decidable.not_not, nI_ltI, nI_leI, nI_eq, ge_iff_le, gt_iff_lt, ne_eq, Nat.not_lt, Nat.not_le] at c_9
      refine w_vret dX8_moves_95 rfl (Nat.le_of_ble_eq_true rfl) (Nat.le_of_ble_eq_true rfl) ?_
      have e : i = T 12 0 := by omega
      subst e
      exact hQ a nn _ _ _ _ _ _ _ _ _ hRn hKn
    · try simp (disch := omega) only [nI_b2, Decidable.not_not, nI_ltI, nI_leI, nI_eq, ge_iff_le, gt_iff_lt, ne_eq, Nat.not_lt, Nat.not_le] at c_9
      refine w_aload_n dX8_moves_12 rfl ?_
      refine w_iload_n dX8_moves_13 rfl ?_
      refine wV1d dX8_moves_14 lk_X8_247 rfl (by first | assumption | exact gs_at | (rw [gs_ne (by omega)]; (first | assumption | exact gs_at | (rw [gs_ne (by omega)]; (first | assumption | exact gs_at | (rw [gs_ne (by omega)]; (first | assumption | exact gs_at | (rw [gs_ne (by omega)]; (first | assumption | exact gs_at))))))))) rfl rfl (hAsk hV2 hm2 hRn hBn (hm0.keep hKn) h62 (by rw [e12]; omega)) (Nat.le_of_ble_eq_true rfl) (Nat.le_of_ble_eq_true rfl) (Nat.le_of_ble_eq_true rfl) (Nat.le_of_ble_eq_true rfl) (fun G1 h_14 => ?_)
      obtain ⟨a2, ba2, en2, at2, dp2, io2, hm2_, hG1⟩ := h_14
      rw [gs_comm (a := V) (b := V + 6) (by omega), gs_gs, gs_comm (a := V + 1) (b := V + 6) (by omega), gs_gs] at hG1
      subst hG1
      have hV3 : (gs (gs (gs G (V + 6) (aI 7 a2)) (V + 1) (aI 750 nn)) V (mO V th hi ac tp (ba2) (en2) (at2) fa (dp2) (io2) (hm2_) (nI (tlN D (itsT D T i) i D.2.1 0)) (nI (tlN D (itsT D T i) i D.2.1 1)) (nI (tlN D (itsT D T i) i D.2.1 2)))).1 V = some (mO V th hi ac tp (ba2) (en2) (at2) fa (dp2) (io2) (hm2_) (nI (tlN D (itsT D T i) i D.2.1 0)) (nI (tlN D (itsT D T i) i D.2.1 1)) (nI (tlN D (itsT D T i) i D.2.1 2))) := gs_at
      have hm3 : (gs (gs (gs G (V + 6) (aI 7 a2)) (V + 1) (aI 750 nn)) V (mO V th hi ac tp (ba2) (en2) (at2) fa (dp2) (io2) (hm2_) (nI (tlN D (itsT D T i) i D.2.1 0)) (nI (tlN D (itsT D T i) i D.2.1 1)) (nI (tlN D (itsT D T i) i D.2.1 2)))).1 (V + 1) = some (aI 750 nn) := (gs_ne (by omega)).trans gs_at
      refine w_aload_n dX8_moves_17 rfl ?_
      refine w_iload_n dX8_moves_18 rfl ?_
      refine w_iconst (v := nI 1) dX8_moves_19 (by decide) ?_
      refine wV2u dX8_moves_20 lk_X8_46 rfl (by first | assumption | exact gs_at | (rw [gs_ne (by omega)]; (first | assumption | exact gs_at | (rw [gs_ne (by omega)]; (first | assumption | exact gs_at | (rw [gs_ne (by omega)]; (first | assumption | exact gs_at | (rw [gs_ne (by omega)]; (first | assumption | exact gs_at))))))))) rfl rfl (m_of (w := 1) hV3 hm3 hRn hBn (by omega) (by decide)) (Nat.le_of_ble_eq_true rfl) (Nat.le_of_ble_eq_true rfl) (Nat.le_of_ble_eq_true rfl) (Nat.le_of_ble_eq_true rfl) ?_
      refine w_istore_2 dX8_moves_23 rfl ?_
      refine w_aload_n dX8_moves_24 rfl ?_
      refine w_iload_n dX8_moves_25 rfl ?_
      refine w_iconst (v := nI 2) dX8_moves_26 (by decide) ?_
      refine w_bipush (v := nI 99) dX8_moves_27 (by decide) ?_
      refine w_aload_n dX8_moves_29 rfl ?_
      refine w_iload_n dX8_moves_30 rfl ?_
      refine w_iconst (v := nI 2) dX8_moves_31 (by decide) ?_
      refine wV2u dX8_moves_32 lk_X8_46 rfl (by first | assumption | exact gs_at | (rw [gs_ne (by omega)]; (first | assumption | exact gs_at | (rw [gs_ne (by omega)]; (first | assumption | exact gs_at | (rw [gs_ne (by omega)]; (first | assumption | exact gs_at | (rw [gs_ne (by omega)]; (first | assumption | exact gs_at))))))))) rfl rfl (m_of (w := 2) hV3 hm3 hRn hBn (by omega) (by decide)) (Nat.le_of_ble_eq_true rfl) (Nat.le_of_ble_eq_true rfl) (Nat.le_of_ble_eq_true rfl) (Nat.le_of_ble_eq_true rfl) ?_
      refine w_aload_n dX8_moves_35 rfl ?_
      refine w_getf dX8_moves_36 fl_X8_207 (by first | assumption | exact gs_at | (rw [gs_ne (by omega)]; (first | assumption | exact gs_at | (rw [gs_ne (by omega)]; (first | assumption | exact gs_at | (rw [gs_ne (by omega)]; (first | assumption | exact gs_at | (rw [gs_ne (by omega)]; (first | assumption | exact gs_at))))))))) rfl ?_
      first | refine w_iaddN dX8_moves_39 ?_ | refine w_iadd dX8_moves_39 ?_
      refine wS2u dX8_moves_40 lk_X8_222 rfl (m_lesser (by omega) (by omega)) (Nat.le_of_ble_eq_true rfl) (Nat.le_of_ble_eq_true rfl) (Nat.le_of_ble_eq_true rfl) (Nat.le_of_ble_eq_true rfl) ?_
      refine wV3n dX8_moves_43 lk_X8_103 rfl (by first | assumption | exact gs_at | (rw [gs_ne (by omega)]; (first | assumption | exact gs_at | (rw [gs_ne (by omega)]; (first | assumption | exact gs_at | (rw [gs_ne (by omega)]; (first | assumption | exact gs_at | (rw [gs_ne (by omega)]; (first | assumption | exact gs_at))))))))) rfl rfl (m_putX (i := i) (w := 2) hV3 hm3 (by omega) (by decide)) (Nat.le_of_ble_eq_true rfl) (Nat.le_of_ble_eq_true rfl) (Nat.le_of_ble_eq_true rfl) (Nat.le_of_ble_eq_true rfl) ?_
      have hR1 := hRn.pi (i := i) (w := 2) (x := (min 99 (itsT D T i 2 i + tlN D (itsT D T i) i D.2.1 0))) (by omega) (by decide)
      have x14 : (upd nn (26 + 7 * i + 2) (nI (min 99 (itsT D T i 2 i + tlN D (itsT D T i) i D.2.1 0)))) (14 + itsT D T i 1 i) = nI (itsT D T i 7 (itsT D T i 1 i)) := by rw [upd_ne (by omega)]; exact r14 _ hb2
      refine w_aload_n dX8_moves_46 rfl ?_
      refine w_getf dX8_moves_47 fl_X8_7 (by first | assumption | exact gs_at | (rw [gs_ne (by omega)]; (first | assumption | exact gs_at | (rw [gs_ne (by omega)]; (first | assumption | exact gs_at | (rw [gs_ne (by omega)]; (first | assumption | exact gs_at | (rw [gs_ne (by omega)]; (first | assumption | exact gs_at))))))))) rfl ?_
      refine w_bipush (v := nI 14) dX8_moves_50 (by decide) ?_
      refine w_iload_n dX8_moves_52 rfl ?_
      first | refine w_iaddN dX8_moves_53 ?_ | refine w_iadd dX8_moves_53 ?_
      refine w_bipush (v := nI 99) dX8_moves_54 (by decide) ?_
      refine w_aload_n dX8_moves_56 rfl ?_
      refine w_getf dX8_moves_57 fl_X8_7 (by first | assumption | exact gs_at | (rw [gs_ne (by omega)]; (first | assumption | exact gs_at | (rw [gs_ne (by omega)]; (first | assumption | exact gs_at | (rw [gs_ne (by omega)]; (first | assumption | exact gs_at | (rw [gs_ne (by omega)]; (first | assumption | exact gs_at))))))))) rfl ?_
      refine w_bipush (v := nI 14) dX8_moves_60 (by decide) ?_
      refine w_iload_n dX8_moves_62 rfl ?_
      first | refine w_iaddN dX8_moves_63 ?_ | refine w_iadd dX8_moves_63 ?_
      refine w_iaload dX8_moves_64 (by first | assumption | exact gs_at | (rw [gs_ne (by omega)]; (first | assumption | exact gs_at | (rw [gs_ne (by omega)]; (first | assumption | exact gs_at | (rw [gs_ne (by omega)]; (first | assumption | exact gs_at | (rw [gs_ne (by omega)]; (first | assumption | exact gs_at))))))))) (by first | assumption | exact vp_in_nI (by omega) (by omega) | exact vp_in_nI (by assumption) (by omega)) ?_
      rw [nI_clamp (by omega)]
      rw [x14]
      refine w_aload_n dX8_moves_65 rfl ?_
      refine w_getf dX8_moves_66 fl_X8_213 (by first | assumption | exact gs_at | (rw [gs_ne (by omega)]; (first | assumption | exact gs_at | (rw [gs_ne (by omega)]; (first | assumption | exact gs_at | (rw [gs_ne (by omega)]; (first | assumption | exact gs_at | (rw [gs_ne (by omega)]; (first | assumption | exact gs_at))))))))) rfl ?_
      first | refine w_iaddN dX8_moves_69 ?_ | refine w_iadd dX8_moves_69 ?_
      refine wS2u dX8_moves_70 lk_X8_222 rfl (m_lesser (by omega) (by omega)) (Nat.le_of_ble_eq_true rfl) (Nat.le_of_ble_eq_true rfl) (Nat.le_of_ble_eq_true rfl) (Nat.le_of_ble_eq_true rfl) ?_
      refine w_iastore dX8_moves_73 (by first | assumption | exact gs_at | (rw [gs_ne (by omega)]; (first | assumption | exact gs_at | (rw [gs_ne (by omega)]; (first | assumption | exact gs_at | (rw [gs_ne (by omega)]; (first | assumption | exact gs_at | (rw [gs_ne (by omega)]; (first | assumption | exact gs_at))))))))) (by first | assumption | exact vp_in_nI (by omega) (by omega) | exact vp_in_nI (by assumption) (by omega)) ?_
      rw [nI_clamp (by omega)]
      have hV4 : ∀ x y : HC, (gs (gs (gs (gs (gs G (V + 6) (aI 7 a2)) (V + 1) (aI 750 nn)) V (mO V th hi ac tp (ba2) (en2) (at2) fa (dp2) (io2) (hm2_) (nI (tlN D (itsT D T i) i D.2.1 0)) (nI (tlN D (itsT D T i) i D.2.1 1)) (nI (tlN D (itsT D T i) i D.2.1 2)))) (V + 1) x) (V + 1) y).1 V = some (mO V th hi ac tp (ba2) (en2) (at2) fa (dp2) (io2) (hm2_) (nI (tlN D (itsT D T i) i D.2.1 0)) (nI (tlN D (itsT D T i) i D.2.1 1)) (nI (tlN D (itsT D T i) i D.2.1 2))) := fun x y => (gs_ne (by omega)).trans ((gs_ne (by omega)).trans hV3)
      refine w_aload_n dX8_moves_74 rfl ?_
      refine w_iload_n dX8_moves_75 rfl ?_
      refine w_iconst (v := nI 1) dX8_moves_76 (by decide) ?_
      refine w_iload_n dX8_moves_77 rfl ?_
      refine w_aload_n dX8_moves_78 rfl ?_
      refine w_getf dX8_moves_79 fl_X8_210 (hV4 _ _) rfl ?_
      first | refine w_iaddN dX8_moves_82 ?_ | refine w_iadd dX8_moves_82 ?_
      refine w_bipush (v := nI 6) dX8_moves_83 (by decide) ?_
      first | refine w_iremN (by omega) (by omega) (by omega) dX8_moves_85 ?_ | refine w_irem dX8_moves_85 (by decide) ?_
      refine wV3n dX8_moves_86 lk_X8_103 rfl (by first | assumption | exact gs_at | (rw [gs_ne (by omega)]; (first | assumption | exact gs_at | (rw [gs_ne (by omega)]; (first | assumption | exact gs_at | (rw [gs_ne (by omega)]; (first | assumption | exact gs_at | (rw [gs_ne (by omega)]; (first | assumption | exact gs_at))))))))) rfl rfl (m_putX (i := i) (w := 1) (mm := (upd (upd nn (26 + 7 * i + 2) (nI (min 99 (itsT D T i 2 i + tlN D (itsT D T i) i D.2.1 0)))) (14 + itsT D T i 1 i) (nI (min 99 (itsT D T i 7 (itsT D T i 1 i) + tlN D (itsT D T i) i D.2.1 2))))) ((gs_ne (by omega)).trans ((gs_ne (by omega)).trans hV3)) gs_at (by omega) (by decide)) (Nat.le_of_ble_eq_true rfl) (Nat.le_of_ble_eq_true rfl) (Nat.le_of_ble_eq_true rfl) (Nat.le_of_ble_eq_true rfl) ?_
      rw [gs_gs, gs_gs]
      have hR2 := hR1.p7 (i := itsT D T i 1 i) (x := (min 99 (itsT D T i 7 (itsT D T i 1 i) + tlN D (itsT D T i) i D.2.1 2))) hb2
      have hR3 := hR2.pi (i := i) (w := 1) (x := ((itsT D T i 1 i + tlN D (itsT D T i) i D.2.1 1) % 6)) (by omega) (by decide)
      first | refine w_iinc_1 dX8_moves_89 (nI_inc _) rfl ?_ | refine w_iinc_1 dX8_moves_89 rfl rfl ?_
      refine w_goto (tgt := 2) dX8_moves_92 (by decide) ?_
      rw [gs_comm (a := V) (b := V + 1) (by omega), gs_gs]
      exact ih (i + 1) a2 (upd (upd (upd nn (26 + 7 * i + 2) (nI (min 99 (itsT D T i 2 i + tlN D (itsT D T i) i D.2.1 0)))) (14 + itsT D T i 1 i) (nI (min 99 (itsT D T i 7 (itsT D T i 1 i) + tlN D (itsT D T i) i D.2.1 2)))) (26 + 7 * i + 1) (nI ((itsT D T i 1 i + tlN D (itsT D T i) i D.2.1 1) % 6))) _ _ _ _ _ _ _ _ _ _ (by omega) (by omega) hR3 (hKn.tr ((Keep.up (by omega) (by omega) (by omega)).tr ((Keep.up (by omega) (by omega) (by omega)).tr (Keep.up (by omega) (by omega) (by omega)))))
theorem m_moves {E : EV} {V : Nat} {th hi ac tp fa : Int32} {mm : Nat → Int32} {T : ST} {sd : Int32} {G : AH} {D : LD} {ba en at_ dp io hm_ we sh so : Int32} {a : Nat → Int32} (hAsk : AskC E D) (hD : WFD D) (hm0 : LwR mm D) (hB : Bd T) (hm : True) (hR : MoR mm T sd) : Cd E 57 kX8_moves [.ref V] (gs (gs (gs G (V + 6) (aI 7 (a))) (V + 1) (aI 750 (mm))) V (mO V th hi ac tp ba en at_ fa dp io hm_ we sh so)) (fun G1 => ∃ (a nn : Nat → Int32) (ba en at_ dp io hm_ we sh so : Int32), G1 = (gs (gs (gs G (V + 6) (aI 7 (a))) (V + 1) (aI 750 (nn))) V (mO V th hi ac tp ba en at_ fa dp io hm_ we sh so)) ∧ MoR nn (itsT D T (T 12 0)) sd ∧ Keep mm nn) := by
  refine Ct.intro rfl (by decide) [.ref V, .float 0, .float 0] (by simp [Value.category]) (Nat.le_of_ble_eq_true rfl) rfl ?_
  refine w_iconst (v := nI 0) dX8_moves_0 (by decide) ?_
  refine w_istore_1 dX8_moves_1 rfl ?_
  exact ml_moves hAsk hD hm0 hB (fun a nn ba en at_ dp io hm_ we sh so h1 h2 => ⟨rfl, a, nn, ba, en, at_, dp, io, hm_, we, sh, so, rfl, h1, h2⟩) (T 12 0 + 1) 0 a mm _ _ _ _ _ _ _ _ _ (.float 0) (by omega) (by omega) hR Keep.rf
