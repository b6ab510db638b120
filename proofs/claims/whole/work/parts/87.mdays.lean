/-! the model: days -/
theorem m_goesG {E : EV} {V : Nat} {th hi ac tp ba en at_ fa dp io hm_ we sh so : Int32} {mm : Nat → Int32} {T : ST} {sd : Int32} {G : AH} {D : LD} {n st : Nat} (hV : G.1 V = some (mO V th hi ac tp ba en at_ fa dp io hm_ we sh so)) (hm : G.1 (V + 1) = some (aI 750 mm)) (h6 : ∃ a : Nat → Int32, G.1 (V + 6) = some (aI 7 a)) (hAsk : AskC E D) (hD : WFD D) (hm0 : LwR mm D) (hB : Bd T) (hst : st ≤ 1) (hn : n ≤ 400) (hR : MoR mm T sd) : Ci E 58 kX8_goes [.ref V, .int (nI n), .int (nI st)] G (fun r G1 => r = nI (eqN D st T sd n) ∧ ∃ (a nn : Nat → Int32) (ba en at_ dp io hm_ we sh so : Int32), G1 = (gs (gs (gs G (V + 6) (aI 7 (a))) (V + 1) (aI 750 (nn))) V (mO V th hi ac tp ba en at_ fa dp io hm_ we sh so)) ∧ MoR nn (adv D st T sd n).1 (adv D st T sd n).2 ∧ Keep mm nn) := by
  obtain ⟨a, h6⟩ := h6
  have e : (gs (gs (gs G (V + 6) (aI 7 (a))) (V + 1) (aI 750 (mm))) V (mO V th hi ac tp ba en at_ fa dp io hm_ we sh so)) = G := by rw [gs_id h6, gs_id hm, gs_id hV]
  have h := m_goes (E := E) (V := V) (G := G) (a := a) (th := th) (hi := hi) (ac := ac) (tp := tp) (ba := ba) (en := en) (at_ := at_) (fa := fa) (dp := dp) (io := io) (hm_ := hm_) (we := we) (sh := sh) (so := so) hAsk hD hm0 hB hst hn hR
  rw [e] at h
  exact h
def DyPost (G : AH) (V : Nat) (hi ac tp fa : Int32) (mm : Nat → Int32) (T2 : ST) (s2 : Int32) (rm2 nw2 : Nat) (P2 : Nat → ST × Int32) (G1 : AH) : Prop := ∃ (a b nn : Nat → Int32) (ba en at_ dp io hm_ we sh so : Int32), G1 = gs (gs (gs (gs G (V + 4) (aI 4200 a)) (V + 6) (aI 7 b)) (V + 1) (aI 750 nn)) V (mO V (nI 0) hi ac tp ba en at_ fa dp io hm_ we sh so) ∧ MoR nn T2 s2 ∧ Keep mm nn ∧ ActR a nn rm2 nw2 P2
theorem mr_m_days {E : EV} {Q : OC → AH → Prop} {V : Nat} {th hi ac tp ba en at_ fa dp io hm_ we sh so : Int32} {G : AH} {x : Int32} {j : Nat} (hV : G.1 V = some (mO V th hi ac tp ba en at_ fa dp io hm_ we sh so)) (hj : 0 < j ∧ j < 4) (hQ : Q (.inl (some (.int (nI 0)))) (gs G V (mO V (nI j) hi ac tp ba en at_ fa dp io hm_ we sh so))) : Wp E 59 0 0 kX8_days Q G (0, 0) 17 [.ref V, .int x] [.int (nI j), .ref V] := by
  refine w_putf dX8_days_17 fl_X8_39 (by first | assumption | exact gs_at | (rw [gs_ne (by omega)]; (first | assumption | exact gs_at | (rw [gs_ne (by omega)]; (first | assumption | exact gs_at | (rw [gs_ne (by omega)]; (first | assumption | exact gs_at | (rw [gs_ne (by omega)]; (first | assumption | exact gs_at))))))))) (by simp) rfl rfl ?_
  refine w_aload_n dX8_days_20 rfl ?_
  refine w_getf dX8_days_21 fl_X8_39 (by first | assumption | exact gs_at | (rw [gs_ne (by omega)]; (first | assumption | exact gs_at | (rw [gs_ne (by omega)]; (first | assumption | exact gs_at | (rw [gs_ne (by omega)]; (first | assumption | exact gs_at | (rw [gs_ne (by omega)]; (first | assumption | exact gs_at))))))))) rfl ?_
  refine w_ifN_le (tgt := 29) dX8_days_24 (by decide) (fun c_24 => ?_) (fun c_24 => ?_)
  · try simp (disch := omega) only [nI_b2, Decidable.not_not, nI_ltI, nI_leI, nI_eq, ge_iff_le, gt_iff_lt, ne_eq, Nat.not_lt, Nat.not_le] at c_24
    exact absurd c_24 (by omega)
  · try simp (disch := omega) only [nI_b2, Decidable.not_not, nI_ltI, nI_leI, nI_eq, ge_iff_le, gt_iff_lt, ne_eq, Nat.not_lt, Nat.not_le] at c_24
    refine w_iconst (v := nI 0) dX8_days_27 (by decide) ?_
    refine w_iret dX8_days_28 rfl (Nat.le_of_ble_eq_true rfl) (Nat.le_of_ble_eq_true rfl) ?_
    exact hQ
theorem mk_m_days {E : EV} {Q : OC → AH → Prop} {V : Nat} {th hi ac tp ba en at_ fa dp io hm_ we sh so : Int32} {mm : Nat → Int32} {T : ST} {sd : Int32} {G : AH} {av : Nat → Int32} {rm nw : Nat} {P : Nat → ST × Int32} {i : Nat} {D : LD} (hi8 : 1 ≤ i) (hi9 : i ≤ 400) (hAsk : AskC E D) (hD : WFD D) (hm0 : LwR mm D) (h6 : ∃ a : Nat → Int32, G.1 (V + 6) = some (aI 7 a)) (hV : G.1 V = some (mO V th hi ac tp ba en at_ fa dp io hm_ we sh so)) (hm : G.1 (V + 1) = some (aI 750 mm)) (hR : MoR mm T sd) (hB : Bd T) (hac : ac = nI rm) (hrm : rm ≤ 12) (hnw : nw < 12) (ha4 : G.1 (V + 4) = some (aI 4200 av)) (hA : ActR av mm rm nw P) (hPB : ∀ i, i < 12 → Bd (P i).1) (hQ : ∀ G1, DyPost G V hi (nI (min 12 (rm + 1))) tp fa mm ((adv D 1 T sd i).1) ((adv D 1 T sd i).2) (min 12 (rm + 1)) ((nw + 1) % 12) (updP P ((nw + 1) % 12) (T, sd)) G1 → Q (.inl (some (.int (nI (eqN D 1 T sd i))))) G1) : Wp E 59 0 0 kX8_days Q G (0, 0) 17 [.ref V, .int (nI i)] [.int (nI 0), .ref V] := by
  obtain ⟨r0, r3, r4, r5, r6, r7, r9, r11, r12, r14, r20, r26, rL⟩ := id hR
  obtain ⟨b0, b1, b2_, b3, b4, b5, b6, b7, b8, b9, b10, b11, b12, b13, b14, b15, b16, b17, b18, b19⟩ := id hB
  have hV2 : (gs G V (mO V (nI 0) hi ac tp ba en at_ fa dp io hm_ we sh so)).1 V = some (mO V (nI 0) hi ac tp ba en at_ fa dp io hm_ we sh so) := gs_at
  have hm2 : (gs G V (mO V (nI 0) hi ac tp ba en at_ fa dp io hm_ we sh so)).1 (V + 1) = some (aI 750 mm) := (gs_ne (by omega)).trans hm
  have ha42 : (gs G V (mO V (nI 0) hi ac tp ba en at_ fa dp io hm_ we sh so)).1 (V + 4) = some (aI 4200 av) := (gs_ne (by omega)).trans ha4
  refine w_putf dX8_days_17 fl_X8_39 (by first | assumption | exact gs_at | (rw [gs_ne (by omega)]; (first | assumption | exact gs_at | (rw [gs_ne (by omega)]; (first | assumption | exact gs_at | (rw [gs_ne (by omega)]; (first | assumption | exact gs_at | (rw [gs_ne (by omega)]; (first | assumption | exact gs_at))))))))) (by simp) rfl rfl ?_
  refine w_aload_n dX8_days_20 rfl ?_
  refine w_getf dX8_days_21 fl_X8_39 (by first | assumption | exact gs_at | (rw [gs_ne (by omega)]; (first | assumption | exact gs_at | (rw [gs_ne (by omega)]; (first | assumption | exact gs_at | (rw [gs_ne (by omega)]; (first | assumption | exact gs_at | (rw [gs_ne (by omega)]; (first | assumption | exact gs_at))))))))) rfl ?_
  refine w_ifN_le (tgt := 29) dX8_days_24 (by decide) (fun c_24 => ?_) (fun c_24 => ?_)
  · try simp (disch := omega) only [nI_b2, Decidable.not_not, nI_ltI, nI_leI, nI_eq, ge_iff_le, gt_iff_lt, ne_eq, Nat.not_lt, Nat.not_le] at c_24
    refine w_aload_n dX8_days_29 rfl ?_
    refine wV0d dX8_days_30 lk_X8_295 rfl (by first | assumption | exact gs_at | (rw [gs_ne (by omega)]; (first | assumption | exact gs_at | (rw [gs_ne (by omega)]; (first | assumption | exact gs_at | (rw [gs_ne (by omega)]; (first | assumption | exact gs_at | (rw [gs_ne (by omega)]; (first | assumption | exact gs_at))))))))) rfl rfl (m_remembers hV2 hm2 hR hB hac hrm hnw ha42 hA hPB) (Nat.le_of_ble_eq_true rfl) (Nat.le_of_ble_eq_true rfl) (Nat.le_of_ble_eq_true rfl) (Nat.le_of_ble_eq_true rfl) (fun G9 h_30 => ?_)
    obtain ⟨a, hG9, hA9⟩ := h_30
    rw [gs_comm (a := V) (b := V + 4) (by omega), gs_gs] at hG9
    subst hG9
    have hV3 : (gs (gs G (V + 4) (aI 4200 a)) V (mO V (nI 0) hi (nI (min 12 (rm + 1))) tp ba en at_ fa dp io hm_ we sh so)).1 V = some (mO V (nI 0) hi (nI (min 12 (rm + 1))) tp ba en at_ fa dp io hm_ we sh so) := gs_at
    have hm3 : (gs (gs G (V + 4) (aI 4200 a)) V (mO V (nI 0) hi (nI (min 12 (rm + 1))) tp ba en at_ fa dp io hm_ we sh so)).1 (V + 1) = some (aI 750 mm) := (gs_ne (by omega)).trans ((gs_ne (by omega)).trans hm)
    refine w_aload_n dX8_days_33 rfl ?_
    refine w_iload_n dX8_days_34 rfl ?_
    refine w_iconst (v := nI 1) dX8_days_35 (by decide) ?_
    refine wV2i dX8_days_36 lk_X8_298 rfl (by first | assumption | exact gs_at | (rw [gs_ne (by omega)]; (first | assumption | exact gs_at | (rw [gs_ne (by omega)]; (first | assumption | exact gs_at | (rw [gs_ne (by omega)]; (first | assumption | exact gs_at | (rw [gs_ne (by omega)]; (first | assumption | exact gs_at))))))))) rfl rfl (m_goesG hV3 hm3 (by obtain ⟨b, hb⟩ := h6; exact ⟨b, (gs_ne (by omega)).trans ((gs_ne (by omega)).trans hb)⟩) hAsk hD hm0 hB (by omega) hi9 hR) (Nat.le_of_ble_eq_true rfl) (Nat.le_of_ble_eq_true rfl) (Nat.le_of_ble_eq_true rfl) (Nat.le_of_ble_eq_true rfl) (fun r1 G7 h_36 => ?_)
    obtain ⟨hr1, b, nn, ba, en, at_, dp, io, hm_, we, sh, so, hG7, hR7, hK7⟩ := h_36
    rw [gs_comm (a := V) (b := V + 6) (by omega), gs_comm (a := V) (b := V + 1) (by omega), gs_gs] at hG7
    subst hG7
    subst hr1
    refine w_iret dX8_days_39 rfl (Nat.le_of_ble_eq_true rfl) (Nat.le_of_ble_eq_true rfl) ?_
    exact hQ _ ⟨a, b, nn, _, _, _, _, _, _, _, _, _, rfl, hR7, hK7, hA9.keep hK7⟩
  · try simp (disch := omega) only [nI_b2, Decidable.not_not, nI_ltI, nI_leI, nI_eq, ge_iff_le, gt_iff_lt, ne_eq, Nat.not_lt, Nat.not_le] at c_24
    exact absurd c_24 (by decide)
theorem m_days {E : EV} {V : Nat} {th hi ac tp ba en at_ fa dp io hm_ we sh so : Int32} {mm : Nat → Int32} {T : ST} {sd : Int32} {G : AH} {av : Nat → Int32} {rm nw : Nat} {P : Nat → ST × Int32} {x : Int32} (hV : G.1 V = some (mO V th hi ac tp ba en at_ fa dp io hm_ we sh so)) (hm : G.1 (V + 1) = some (aI 750 mm)) (hR : MoR mm T sd) (hB : Bd T) (hac : ac = nI rm) (hrm : rm ≤ 12) (hnw : nw < 12) (ha4 : G.1 (V + 4) = some (aI 4200 av)) (hA : ActR av mm rm nw P) (hPB : ∀ i, i < 12 → Bd (P i).1) {D : LD} (hAsk : AskC E D) (hD : WFD D) (hm0 : LwR mm D) (h6 : ∃ a : Nat → Int32, G.1 (V + 6) = some (aI 7 a)) : Ci E 59 kX8_days [.ref V, .int x] G (fun r G1 => r = (if xk1 (okN 1 (nI 400) x) = 0 then nI (eqN D 1 T sd (ix x)) else nI 0) ∧ (xk1 (okN 1 (nI 400) x) = 0 → DyPost G V hi (nI (min 12 (rm + 1))) tp fa mm ((adv D 1 T sd (ix x)).1) ((adv D 1 T sd (ix x)).2) (min 12 (rm + 1)) ((nw + 1) % 12) (updP P ((nw + 1) % 12) (T, sd)) G1) ∧ (¬ xk1 (okN 1 (nI 400) x) = 0 → G1 = (gs G V (mO V (nI (xk1 (okN 1 (nI 400) x))) hi ac tp ba en at_ fa dp io hm_ we sh so)))) := by
  refine Ct.intro rfl (by decide) [.ref V, .int x] (by simp [Value.category]) (Nat.le_of_ble_eq_true rfl) rfl ?_
  obtain ⟨r0, r3, r4, r5, r6, r7, r9, r11, r12, r14, r20, r26, rL⟩ := id hR
  obtain ⟨b0, b1, b2_, b3, b4, b5, b6, b7, b8, b9, b10, b11, b12, b13, b14, b15, b16, b17, b18, b19⟩ := id hB
  refine w_aload_n dX8_days_0 rfl ?_
  refine w_iload_n dX8_days_1 rfl ?_
  refine w_iconst (v := nI 1) dX8_days_2 (by decide) ?_
  refine w_sipush (v := nI 400) dX8_days_3 (by decide) ?_
  refine wS3u dX8_days_6 lk_X8_42 rfl (m_isIn) (Nat.le_of_ble_eq_true rfl) (Nat.le_of_ble_eq_true rfl) (Nat.le_of_ble_eq_true rfl) (Nat.le_of_ble_eq_true rfl) ?_
  refine w_ifN_ne (tgt := 16) dX8_days_9 (by decide) (fun c_9 => ?_) (fun c_9 => ?_)
  · try simp (disch := omega) only [nI_b2, Decidable.not_not, nI_ltI, nI_leI, nI_eq, ge_iff_le, gt_iff_lt, ne_eq, Nat.not_lt, Nat.not_le] at c_9
    refine w_iconst (v := nI 0) dX8_days_16 (by decide) ?_
    first
      | (have kx : xk1 (okN 1 (nI 400) x) = 1 := (by rw [xk1, if_neg (show ¬ okN 1 (nI 400) x from c_9)]); exact mr_m_days hV (by decide) ⟨_, rfl, by rw [kx]; rfl, fun e => absurd (kx.symm.trans e) (by decide), fun _ => by rw [kx]⟩)
      | (have kx : xk1 (okN 1 (nI 400) x) = 0 := (by rw [xk1, if_pos (show okN 1 (nI 400) x from c_9)]); obtain ⟨i, hi8, hi9, e⟩ := in_L (a := 1) (n := 400) (by omega) (by omega) c_9; subst e; exact mk_m_days hi8 hi9 hAsk hD hm0 h6 hV hm hR hB hac hrm hnw ha4 hA hPB (fun G1 hG1 => ⟨_, rfl, by rw [kx, if_pos rfl, ix_nI (by omega)], fun _ => by rw [ix_nI (by omega)]; exact hG1, fun e => absurd kx e⟩))
  · try simp (disch := omega) only [nI_b2, Decidable.not_not, nI_ltI, nI_leI, nI_eq, ge_iff_le, gt_iff_lt, ne_eq, Nat.not_lt, Nat.not_le] at c_9
    refine w_iconst (v := nI 1) dX8_days_12 (by decide) ?_
    refine w_goto (tgt := 17) dX8_days_13 (by decide) ?_
    first
      | (have kx : xk1 (okN 1 (nI 400) x) = 1 := (by rw [xk1, if_neg (show ¬ okN 1 (nI 400) x from c_9)]); exact mr_m_days hV (by decide) ⟨_, rfl, by rw [kx]; rfl, fun e => absurd (kx.symm.trans e) (by decide), fun _ => by rw [kx]⟩)
      | (have kx : xk1 (okN 1 (nI 400) x) = 0 := (by rw [xk1, if_pos (show okN 1 (nI 400) x from c_9)]); obtain ⟨i, hi8, hi9, e⟩ := in_L (a := 1) (n := 400) (by omega) (by omega) c_9; subst e; exact mk_m_days hi8 hi9 hAsk hD hm0 h6 hV hm hR hB hac hrm hnw ha4 hA hPB (fun G1 hG1 => ⟨_, rfl, by rw [kx, if_pos rfl, ix_nI (by omega)], fun _ => by rw [ix_nI (by omega)]; exact hG1, fun e => absurd kx e⟩))
