/-! the model: does; law -/
theorem mr_m_does {E : EV} {Q : OC → AH → Prop} {V : Nat} {th hi ac tp ba en at_ fa dp io hm_ we sh so : Int32} {G : AH} {x w : Int32} {j : Nat} (hV : G.1 V = some (mO V th hi ac tp ba en at_ fa dp io hm_ we sh so)) (hj : 0 < j ∧ j < 4) (hQ : Q (.inl (some (.int (nI 0)))) (gs G V (mO V (nI j) hi ac tp ba en at_ fa dp io hm_ we sh so))) : Wp E 57 0 0 kX8_does Q G (0, 0) 27 [.ref V, .int x, .int w] [.int (nI j), .ref V] := by
  refine w_putf dX8_does_27 fl_X8_39 (by first | assumption | exact gs_at | (rw [gs_ne (by omega)]; (first | assumption | exact gs_at | (rw [gs_ne (by omega)]; (first | assumption | exact gs_at | (rw [gs_ne (by omega)]; (first | assumption | exact gs_at | (rw [gs_ne (by omega)]; (first | assumption | exact gs_at))))))))) (by simp) rfl rfl ?_
  refine w_aload_n dX8_does_30 rfl ?_
  refine w_getf dX8_does_31 fl_X8_39 (by first | assumption | exact gs_at | (rw [gs_ne (by omega)]; (first | assumption | exact gs_at | (rw [gs_ne (by omega)]; (first | assumption | exact gs_at | (rw [gs_ne (by omega)]; (first | assumption | exact gs_at | (rw [gs_ne (by omega)]; (first | assumption | exact gs_at))))))))) rfl ?_
  refine w_ifN_le (tgt := 39) dX8_does_34 (by decide) (fun c_34 => ?_) (fun c_34 => ?_)
  · try simp (disch := omega) only [nI_b2, Decidable.not_not, nI_ltI, nI_leI, nI_eq, ge_iff_le, gt_iff_lt, ne_eq, Nat.not_lt, Nat.not_le] at c_34
    exact absurd c_34 (by omega)
  · try simp (disch := omega) only [nI_b2, Decidable.not_not, nI_ltI, nI_leI, nI_eq, ge_iff_le, gt_iff_lt, ne_eq, Nat.not_lt, Nat.not_le] at c_34
    refine w_iconst (v := nI 0) dX8_does_37 (by decide) ?_
    refine w_iret dX8_does_38 rfl (Nat.le_of_ble_eq_true rfl) (Nat.le_of_ble_eq_true rfl) ?_
    exact hQ
theorem mk_m_does {E : EV} {Q : OC → AH → Prop} {V : Nat} {th hi ac tp ba en at_ fa dp io hm_ we sh so : Int32} {mm : Nat → Int32} {T : ST} {sd : Int32} {G : AH}  {i w : Nat} {D : LD} (hi9 : i < T 12 0) (hw9 : w ≤ 2) (hAsk : AskC E D) (hD : WFD D) (hm0 : LwR mm D) (h3 : ∃ a : Nat → Int32, G.1 (V + 3) = some (aI 350 a)) (h6 : ∃ a : Nat → Int32, G.1 (V + 6) = some (aI 7 a)) (hV : G.1 V = some (mO V th hi ac tp ba en at_ fa dp io hm_ we sh so)) (hm : G.1 (V + 1) = some (aI 750 mm)) (hR : MoR mm T sd) (hB : Bd T)  (hQ : ∀ G1, AhP G V hi ac tp fa G1 → Q (.inl (some (.int (nI (tlN D T i D.2.1 w))))) G1) : Wp E 57 0 0 kX8_does Q G (0, 0) 27 [.ref V, .int (nI i), .int (nI w)] [.int (nI 0), .ref V] := by
  obtain ⟨r0, r3, r4, r5, r6, r7, r9, r11, r12, r14, r20, r26, rL⟩ := id hR
  obtain ⟨b0, b1, b2_, b3, b4, b5, b6, b7, b8, b9, b10, b11, b12, b13, b14, b15, b16, b17, b18, b19⟩ := id hB
  have hV2 : (gs G V (mO V (nI 0) hi ac tp ba en at_ fa dp io hm_ we sh so)).1 V = some (mO V (nI 0) hi ac tp ba en at_ fa dp io hm_ we sh so) := gs_at
  have hm2 : (gs G V (mO V (nI 0) hi ac tp ba en at_ fa dp io hm_ we sh so)).1 (V + 1) = some (aI 750 mm) := (gs_ne (by omega)).trans hm
  refine w_putf dX8_does_27 fl_X8_39 (by first | assumption | exact gs_at | (rw [gs_ne (by omega)]; (first | assumption | exact gs_at | (rw [gs_ne (by omega)]; (first | assumption | exact gs_at | (rw [gs_ne (by omega)]; (first | assumption | exact gs_at | (rw [gs_ne (by omega)]; (first | assumption | exact gs_at))))))))) (by simp) rfl rfl ?_
  refine w_aload_n dX8_does_30 rfl ?_
  refine w_getf dX8_does_31 fl_X8_39 (by first | assumption | exact gs_at | (rw [gs_ne (by omega)]; (first | assumption | exact gs_at | (rw [gs_ne (by omega)]; (first | assumption | exact gs_at | (rw [gs_ne (by omega)]; (first | assumption | exact gs_at | (rw [gs_ne (by omega)]; (first | assumption | exact gs_at))))))))) rfl ?_
  refine w_ifN_le (tgt := 39) dX8_does_34 (by decide) (fun c_34 => ?_) (fun c_34 => ?_)
  · try simp (disch := omega) only [nI_b2, Decidable.not_not, nI_ltI, nI_leI, nI_eq, ge_iff_le, gt_iff_lt, ne_eq, Nat.not_lt, Nat.not_le] at c_34
    refine w_aload_n dX8_does_39 rfl ?_
    refine w_iload_n dX8_does_40 rfl ?_
    refine wV1d dX8_does_41 lk_X8_247 rfl (by first | assumption | exact gs_at | (rw [gs_ne (by omega)]; (first | assumption | exact gs_at | (rw [gs_ne (by omega)]; (first | assumption | exact gs_at | (rw [gs_ne (by omega)]; (first | assumption | exact gs_at | (rw [gs_ne (by omega)]; (first | assumption | exact gs_at))))))))) rfl rfl (hAsk hV2 hm2 hR hB hm0 (by obtain ⟨a, h6⟩ := h6; exact ⟨a, (gs_ne (by omega)).trans h6⟩) hi9) (Nat.le_of_ble_eq_true rfl) (Nat.le_of_ble_eq_true rfl) (Nat.le_of_ble_eq_true rfl) (Nat.le_of_ble_eq_true rfl) (fun G8 h_41 => ?_)
    obtain ⟨a, ba2, en2, at2, dp2, io2, hm2_, hG1⟩ := h_41
    rw [gs_comm (a := V) (b := V + 6) (by omega), gs_gs] at hG1
    subst hG1
    obtain ⟨a3, h3⟩ := h3
    have hQ9 := hQ _ ⟨a3, a, ba2, en2, at2, dp2, io2, hm2_, nI (tlN D T i D.2.1 0), nI (tlN D T i D.2.1 1), nI (tlN D T i D.2.1 2), by rw [gs_id h3]⟩
    refine w_iload_n dX8_does_44 rfl ?_
    refine w_ifN_ne (tgt := 55) dX8_does_45 (by decide) (fun c_45 => ?_) (fun c_45 => ?_)
    · try simp (disch := omega) only [nI_b2, Decidable.not_not, nI_ltI, nI_leI, nI_eq, ge_iff_le, gt_iff_lt, ne_eq, Nat.not_lt, Nat.not_le] at c_45
      refine w_iload_n dX8_does_55 rfl ?_
      refine w_iconst (v := nI 1) dX8_does_56 (by decide) ?_
      refine w_icmp_ne (tgt := 67) dX8_does_57 (by decide) (fun c_57 => ?_) (fun c_57 => ?_)
      · try simp (disch := omega) only [nI_b2, Decidable.not_not, nI_ltI, nI_leI, nI_eq, ge_iff_le, gt_iff_lt, ne_eq, Nat.not_lt, Nat.not_le] at c_57
        refine w_aload_n dX8_does_67 rfl ?_
        refine w_getf dX8_does_68 fl_X8_213 (by first | assumption | exact gs_at | (rw [gs_ne (by omega)]; (first | assumption | exact gs_at | (rw [gs_ne (by omega)]; (first | assumption | exact gs_at | (rw [gs_ne (by omega)]; (first | assumption | exact gs_at | (rw [gs_ne (by omega)]; (first | assumption | exact gs_at))))))))) rfl ?_
        refine w_iret dX8_does_71 rfl (Nat.le_of_ble_eq_true rfl) (Nat.le_of_ble_eq_true rfl) ?_
        have hw : w = 0 ∨ w = 1 ∨ w = 2 := by omega
        rcases hw with h | h | h <;> subst h
        all_goals first | omega | exact hQ9
      · try simp (disch := omega) only [nI_b2, Decidable.not_not, nI_ltI, nI_leI, nI_eq, ge_iff_le, gt_iff_lt, ne_eq, Nat.not_lt, Nat.not_le] at c_57
        refine w_aload_n dX8_does_60 rfl ?_
        refine w_getf dX8_does_61 fl_X8_210 (by first | assumption | exact gs_at | (rw [gs_ne (by omega)]; (first | assumption | exact gs_at | (rw [gs_ne (by omega)]; (first | assumption | exact gs_at | (rw [gs_ne (by omega)]; (first | assumption | exact gs_at | (rw [gs_ne (by omega)]; (first | assumption | exact gs_at))))))))) rfl ?_
        refine w_goto (tgt := 71) dX8_does_64 (by decide) ?_
        refine w_iret dX8_does_71 rfl (Nat.le_of_ble_eq_true rfl) (Nat.le_of_ble_eq_true rfl) ?_
        have hw : w = 0 ∨ w = 1 ∨ w = 2 := by omega
        rcases hw with h | h | h <;> subst h
        all_goals first | omega | exact hQ9
    · try simp (disch := omega) only [nI_b2, Decidable.not_not, nI_ltI, nI_leI, nI_eq, ge_iff_le, gt_iff_lt, ne_eq, Nat.not_lt, Nat.not_le] at c_45
      refine w_aload_n dX8_does_48 rfl ?_
      refine w_getf dX8_does_49 fl_X8_207 (by first | assumption | exact gs_at | (rw [gs_ne (by omega)]; (first | assumption | exact gs_at | (rw [gs_ne (by omega)]; (first | assumption | exact gs_at | (rw [gs_ne (by omega)]; (first | assumption | exact gs_at | (rw [gs_ne (by omega)]; (first | assumption | exact gs_at))))))))) rfl ?_
      refine w_goto (tgt := 71) dX8_does_52 (by decide) ?_
      refine w_iret dX8_does_71 rfl (Nat.le_of_ble_eq_true rfl) (Nat.le_of_ble_eq_true rfl) ?_
      have hw : w = 0 ∨ w = 1 ∨ w = 2 := by omega
      rcases hw with h | h | h <;> subst h
      all_goals first | omega | exact hQ9
  · try simp (disch := omega) only [nI_b2, Decidable.not_not, nI_ltI, nI_leI, nI_eq, ge_iff_le, gt_iff_lt, ne_eq, Nat.not_lt, Nat.not_le] at c_34
    exact absurd c_34 (by decide)
theorem m_does {E : EV} {V : Nat} {th hi ac tp ba en at_ fa dp io hm_ we sh so : Int32} {mm : Nat → Int32} {T : ST} {sd : Int32} {G : AH}  {x w : Int32} (hV : G.1 V = some (mO V th hi ac tp ba en at_ fa dp io hm_ we sh so)) (hm : G.1 (V + 1) = some (aI 750 mm)) (hR : MoR mm T sd) (hB : Bd T)  {D : LD} (hAsk : AskC E D) (hD : WFD D) (hm0 : LwR mm D) (h3 : ∃ a : Nat → Int32, G.1 (V + 3) = some (aI 350 a)) (h6 : ∃ a : Nat → Int32, G.1 (V + 6) = some (aI 7 a)) : Ci E 57 kX8_does [.ref V, .int x, .int w] G (fun r G1 => r = (if xk2 (okI (T 12 0) x) (okN 0 (nI 2) w) = 0 then nI (tlN D T (ix x) D.2.1 (ix w)) else nI 0) ∧ (xk2 (okI (T 12 0) x) (okN 0 (nI 2) w) = 0 → AhP G V hi ac tp fa G1) ∧ (¬ xk2 (okI (T 12 0) x) (okN 0 (nI 2) w) = 0 → G1 = (gs G V (mO V (nI (xk2 (okI (T 12 0) x) (okN 0 (nI 2) w))) hi ac tp ba en at_ fa dp io hm_ we sh so)))) := by
  refine Ct.intro rfl (by decide) [.ref V, .int x, .int w] (by simp [Value.category]) (Nat.le_of_ble_eq_true rfl) rfl ?_
  obtain ⟨r0, r3, r4, r5, r6, r7, r9, r11, r12, r14, r20, r26, rL⟩ := id hR
  obtain ⟨b0, b1, b2_, b3, b4, b5, b6, b7, b8, b9, b10, b11, b12, b13, b14, b15, b16, b17, b18, b19⟩ := id hB
  refine w_aload_n dX8_does_0 rfl ?_
  refine w_aload_n dX8_does_1 rfl ?_
  refine w_iload_n dX8_does_2 rfl ?_
  refine wV1u dX8_does_3 lk_X8_277 rfl (by first | assumption | exact gs_at | (rw [gs_ne (by omega)]; (first | assumption | exact gs_at | (rw [gs_ne (by omega)]; (first | assumption | exact gs_at | (rw [gs_ne (by omega)]; (first | assumption | exact gs_at | (rw [gs_ne (by omega)]; (first | assumption | exact gs_at))))))))) rfl rfl (m_isItem hV hm hR hB) (Nat.le_of_ble_eq_true rfl) (Nat.le_of_ble_eq_true rfl) (Nat.le_of_ble_eq_true rfl) (Nat.le_of_ble_eq_true rfl) ?_
  refine w_ifN_ne (tgt := 13) dX8_does_6 (by decide) (fun c_6 => ?_) (fun c_6 => ?_)
  · try simp (disch := omega) only [nI_b2, Decidable.not_not, nI_ltI, nI_leI, nI_eq, ge_iff_le, gt_iff_lt, ne_eq, Nat.not_lt, Nat.not_le] at c_6
    refine w_iload_n dX8_does_13 rfl ?_
    refine w_iconst (v := nI 0) dX8_does_14 (by decide) ?_
    refine w_iconst (v := nI 2) dX8_does_15 (by decide) ?_
    refine wS3u dX8_does_16 lk_X8_42 rfl (m_isIn) (Nat.le_of_ble_eq_true rfl) (Nat.le_of_ble_eq_true rfl) (Nat.le_of_ble_eq_true rfl) (Nat.le_of_ble_eq_true rfl) ?_
    refine w_ifN_ne (tgt := 26) dX8_does_19 (by decide) (fun c_19 => ?_) (fun c_19 => ?_)
    · try simp (disch := omega) only [nI_b2, Decidable.not_not, nI_ltI, nI_leI, nI_eq, ge_iff_le, gt_iff_lt, ne_eq, Nat.not_lt, Nat.not_le] at c_19
      refine w_iconst (v := nI 0) dX8_does_26 (by decide) ?_
      first
        | (have kx : xk2 (okI (T 12 0) x) (okN 0 (nI 2) w) = 1 := (by rw [xk2, if_neg c_6]); exact mr_m_does hV (by decide) ⟨_, rfl, by rw [kx]; rfl, fun e => absurd (kx.symm.trans e) (by decide), fun _ => by rw [kx]⟩)
        | (have kx : xk2 (okI (T 12 0) x) (okN 0 (nI 2) w) = 2 := (by rw [xk2, if_pos c_6, if_neg (show ¬ okN 0 (nI 2) w from c_19)]); exact mr_m_does hV (by decide) ⟨_, rfl, by rw [kx]; rfl, fun e => absurd (kx.symm.trans e) (by decide), fun _ => by rw [kx]⟩)
        | (have kx : xk2 (okI (T 12 0) x) (okN 0 (nI 2) w) = 0 := (by rw [xk2, if_pos c_6, if_pos (show okN 0 (nI 2) w from c_19)]); obtain ⟨i, hi9, e⟩ := in_N (n := T 12 0) (by omega) c_6; subst e; obtain ⟨w, hw8, hw9, ew⟩ := in_L (a := 0) (n := 2) (by omega) (by omega) c_19; subst ew; exact mk_m_does hi9 hw9 hAsk hD hm0 h3 h6 hV hm hR hB (fun G1 hG1 => ⟨_, rfl, by rw [kx, if_pos rfl, ix_nI (show i < 2 ^ 31 by omega), ix_nI (show w < 2 ^ 31 by omega)], fun _ => hG1, fun e => absurd kx e⟩))
    · try simp (disch := omega) only [nI_b2, Decidable.not_not, nI_ltI, nI_leI, nI_eq, ge_iff_le, gt_iff_lt, ne_eq, Nat.not_lt, Nat.not_le] at c_19
      refine w_iconst (v := nI 2) dX8_does_22 (by decide) ?_
      refine w_goto (tgt := 27) dX8_does_23 (by decide) ?_
      first
        | (have kx : xk2 (okI (T 12 0) x) (okN 0 (nI 2) w) = 1 := (by rw [xk2, if_neg c_6]); exact mr_m_does hV (by decide) ⟨_, rfl, by rw [kx]; rfl, fun e => absurd (kx.symm.trans e) (by decide), fun _ => by rw [kx]⟩)
        | (have kx : xk2 (okI (T 12 0) x) (okN 0 (nI 2) w) = 2 := (by rw [xk2, if_pos c_6, if_neg (show ¬ okN 0 (nI 2) w from c_19)]); exact mr_m_does hV (by decide) ⟨_, rfl, by rw [kx]; rfl, fun e => absurd (kx.symm.trans e) (by decide), fun _ => by rw [kx]⟩)
        | (have kx : xk2 (okI (T 12 0) x) (okN 0 (nI 2) w) = 0 := (by rw [xk2, if_pos c_6, if_pos (show okN 0 (nI 2) w from c_19)]); obtain ⟨i, hi9, e⟩ := in_N (n := T 12 0) (by omega) c_6; subst e; obtain ⟨w, hw8, hw9, ew⟩ := in_L (a := 0) (n := 2) (by omega) (by omega) c_19; subst ew; exact mk_m_does hi9 hw9 hAsk hD hm0 h3 h6 hV hm hR hB (fun G1 hG1 => ⟨_, rfl, by rw [kx, if_pos rfl, ix_nI (show i < 2 ^ 31 by omega), ix_nI (show w < 2 ^ 31 by omega)], fun _ => hG1, fun e => absurd kx e⟩))
  · try simp (disch := omega) only [nI_b2, Decidable.not_not, nI_ltI, nI_leI, nI_eq, ge_iff_le, gt_iff_lt, ne_eq, Nat.not_lt, Nat.not_le] at c_6
    refine w_iconst (v := nI 1) dX8_does_9 (by decide) ?_
    refine w_goto (tgt := 27) dX8_does_10 (by decide) ?_
    first
      | (have kx : xk2 (okI (T 12 0) x) (okN 0 (nI 2) w) = 1 := (by rw [xk2, if_neg c_6]); exact mr_m_does hV (by decide) ⟨_, rfl, by rw [kx]; rfl, fun e => absurd (kx.symm.trans e) (by decide), fun _ => by rw [kx]⟩)
      | (have kx : xk2 (okI (T 12 0) x) (okN 0 (nI 2) w) = 2 := (by rw [xk2, if_pos c_6, if_neg (show ¬ okN 0 (nI 2) w from c_19)]); exact mr_m_does hV (by decide) ⟨_, rfl, by rw [kx]; rfl, fun e => absurd (kx.symm.trans e) (by decide), fun _ => by rw [kx]⟩)
      | (have kx : xk2 (okI (T 12 0) x) (okN 0 (nI 2) w) = 0 := (by rw [xk2, if_pos c_6, if_pos (show okN 0 (nI 2) w from c_19)]); obtain ⟨i, hi9, e⟩ := in_N (n := T 12 0) (by omega) c_6; subst e; obtain ⟨w, hw8, hw9, ew⟩ := in_L (a := 0) (n := 2) (by omega) (by omega) c_19; subst ew; exact mk_m_does hi9 hw9 hAsk hD hm0 h3 h6 hV hm hR hB (fun G1 hG1 => ⟨_, rfl, by rw [kx, if_pos rfl, ix_nI (show i < 2 ^ 31 by omega), ix_nI (show w < 2 ^ 31 by omega)], fun _ => hG1, fun e => absurd kx e⟩))
theorem MoR.cg2 {mm nn : Nat → Int32} {T : ST} {sd : Int32} (h : MoR mm T sd) (hB : Bd T) (e : ∀ k, k < 350 → k ≠ 1 → k ≠ 2 → nn k = mm k) : MoR nn T sd := by
  obtain ⟨r0, r3, r4, r5, r6, r7, r9, r11, r12, r14, r20, r26, rL⟩ := h
  have b18 : T 12 6 ≤ 60 := hB.2.2.2.2.2.2.2.2.2.2.2.2.2.2.2.2.2.2.1
  refine ⟨?_, ?_, ?_, ?_, ?_, fun s hs => ?_, fun s hs => ?_, ?_, ?_, fun r hr => ?_, fun r hr => ?_, fun i w hi hw => ?_, fun a w ha hw => ?_⟩
  all_goals rw [e _ (by omega) (by omega) (by omega)]
  · exact r0
  · exact r3
  · exact r4
  · exact r5
  · exact r6
  · exact r7 s hs
  · exact r9 s hs
  · exact r11
  · exact r12
  · exact r14 r hr
  · exact r20 r hr
  · exact r26 i w hi hw
  · exact rL a w ha hw
theorem ml_law55 {E : EV} {Q : OC → AH → Prop} {V n : Nat} {th hi ac tp ba at_ fa dp io hm_ we sh so : Int32} {G : AH} {f : Nat → Nat} {n0 : Nat → Int32} {r : Int32} (hn : n ≤ 400) (hT5 : G.1 (V + 5) = some (aI 400 (fun i => nI (f i)))) (hQ : ∀ nn : Nat → Int32, (∀ j, j < n → nn (350 + j) = nI (f j)) → (∀ j, j < 350 → nn j = n0 j) → Q (.inl (some (.int r))) (gs (gs G (V + 1) (aI 750 nn)) V (mO V th hi (nI 0) tp ba (nI n) at_ fa dp io hm_ we sh so))) : ∀ (k i : Nat) (nn : Nat → Int32), n - i < k → i ≤ n → (∀ j, j < i → nn (350 + j) = nI (f j)) → (∀ j, j < 350 → nn j = n0 j) → Wp E 56 0 0 kX8_law Q (gs (gs G (V + 1) (aI 750 nn)) V (mO V th hi ac tp ba (nI n) at_ fa dp io hm_ we sh so)) (0, 0) 55 [.ref V, .int r, .int (nI i)] [] := by
  intro k
  induction k with
  | zero => intro i nn h; exact absurd h (by omega)
  | succ k ih =>
    intro i nn hk hi9 h1 h2
    have hm9 : (gs (gs G (V + 1) (aI 750 nn)) V (mO V th hi ac tp ba (nI n) at_ fa dp io hm_ we sh so)).1 (V + 1) = some (aI 750 nn) := (gs_ne (by omega)).trans gs_at
    have hT9 : (gs (gs G (V + 1) (aI 750 nn)) V (mO V th hi ac tp ba (nI n) at_ fa dp io hm_ we sh so)).1 (V + 5) = some (aI 400 (fun i => nI (f i))) := (gs_ne (by omega)).trans ((gs_ne (by omega)).trans hT5)
    refine w_iload_n dX8_law_55 rfl ?_
    refine w_aload_n dX8_law_56 rfl ?_
    refine w_getf dX8_law_57 fl_X8_59 (by first | assumption | exact gs_at | (rw [gs_ne (by omega)]; (first | assumption | exact gs_at | (rw [gs_ne (by omega)]; (first | assumption | exact gs_at | (rw [gs_ne (by omega)]; (first | assumption | exact gs_at | (rw [gs_ne (by omega)]; (first | assumption | exact gs_at))))))))) rfl ?_
    refine w_icmp_ge (tgt := 85) dX8_law_60 (by decide) (fun c_60 => ?_) (fun c_60 => ?_)
    · try simp (disch := omega) only [nI_b2, Decidable.not_not, nI_ltI, nI_leI, nI_eq, ge_iff_le, gt_iff_lt, ne_eq, Nat.not_lt, Nat.not_le] at c_60
      refine w_aload_n dX8_law_85 rfl ?_
      refine w_iconst (v := nI 0) dX8_law_86 (by decide) ?_
      refine w_putf dX8_law_87 fl_X8_158 (by first | assumption | exact gs_at | (rw [gs_ne (by omega)]; (first | assumption | exact gs_at | (rw [gs_ne (by omega)]; (first | assumption | exact gs_at | (rw [gs_ne (by omega)]; (first | assumption | exact gs_at | (rw [gs_ne (by omega)]; (first | assumption | exact gs_at))))))))) (by simp) rfl rfl ?_
      refine w_iload_n dX8_law_90 rfl ?_
      refine w_iret dX8_law_91 rfl (Nat.le_of_ble_eq_true rfl) (Nat.le_of_ble_eq_true rfl) ?_
      rw [gs_gs]
      exact hQ nn (fun j hj => h1 j (by omega)) h2
    · try simp (disch := omega) only [nI_b2, Decidable.not_not, nI_ltI, nI_leI, nI_eq, ge_iff_le, gt_iff_lt, ne_eq, Nat.not_lt, Nat.not_le] at c_60
      refine w_aload_n dX8_law_63 rfl ?_
      refine w_getf dX8_law_64 fl_X8_7 (by first | assumption | exact gs_at | (rw [gs_ne (by omega)]; (first | assumption | exact gs_at | (rw [gs_ne (by omega)]; (first | assumption | exact gs_at | (rw [gs_ne (by omega)]; (first | assumption | exact gs_at | (rw [gs_ne (by omega)]; (first | assumption | exact gs_at))))))))) rfl ?_
      refine w_sipush (v := nI 350) dX8_law_67 (by decide) ?_
      refine w_iload_n dX8_law_70 rfl ?_
      first | refine w_iaddN dX8_law_71 ?_ | refine w_iadd dX8_law_71 ?_
      refine w_aload_n dX8_law_72 rfl ?_
      refine w_getf dX8_law_73 fl_X8_22 (by first | assumption | exact gs_at | (rw [gs_ne (by omega)]; (first | assumption | exact gs_at | (rw [gs_ne (by omega)]; (first | assumption | exact gs_at | (rw [gs_ne (by omega)]; (first | assumption | exact gs_at | (rw [gs_ne (by omega)]; (first | assumption | exact gs_at))))))))) rfl ?_
      refine w_iload_n dX8_law_76 rfl ?_
      refine w_iaload dX8_law_77 (by first | assumption | exact gs_at | (rw [gs_ne (by omega)]; (first | assumption | exact gs_at | (rw [gs_ne (by omega)]; (first | assumption | exact gs_at | (rw [gs_ne (by omega)]; (first | assumption | exact gs_at | (rw [gs_ne (by omega)]; (first | assumption | exact gs_at))))))))) (by first | assumption | exact vp_in_nI (by omega) (by omega) | exact vp_in_nI (by assumption) (by omega)) ?_
      rw [nI_clamp (by omega)]
      refine w_iastore dX8_law_78 (by first | assumption | exact gs_at | (rw [gs_ne (by omega)]; (first | assumption | exact gs_at | (rw [gs_ne (by omega)]; (first | assumption | exact gs_at | (rw [gs_ne (by omega)]; (first | assumption | exact gs_at | (rw [gs_ne (by omega)]; (first | assumption | exact gs_at))))))))) (by first | assumption | exact vp_in_nI (by omega) (by omega) | exact vp_in_nI (by assumption) (by omega)) ?_
      rw [nI_clamp (by omega)]
      first | refine w_iinc_2 dX8_law_79 (nI_inc _) rfl ?_ | refine w_iinc_2 dX8_law_79 rfl rfl ?_
      refine w_goto (tgt := 55) dX8_law_82 (by decide) ?_
      rw [gs_comm (a := V) (b := V + 1) (by omega), gs_gs]
      refine ih (i + 1) _ (by omega) (by omega) (fun j hj => ?_) (fun j hj => ?_)
      · by_cases e : j = i
        · subst e; exact upd_at
        · rw [upd_ne (by omega)]; exact h1 j (by omega)
      · rw [upd_ne (by omega)]; exact h2 j hj
theorem m_law {E : EV} {V : Nat} {th hi ac tp ba en at_ fa dp io hm_ we sh so : Int32} {mm : Nat → Int32} {G : AH} {f : Nat → Nat} {tn : Nat} (X9 : LX) (ww9 : Nat → Int32) (wn9 : Nat) (dp9 : Int32) (hV : G.1 V = some (mO V th hi ac tp ba en at_ fa dp io hm_ we sh so)) (hm : G.1 (V + 1) = some (aI 750 mm)) (htp : tp = nI tn) (htn : tn ≤ 400) (hf : ∀ i, f i < 256) (hT5 : G.1 (V + 5) = some (aI 400 (fun i => nI (f i)))) (h6 : ∃ a : Nat → Int32, G.1 (V + 6) = some (aI 7 a)) : Ci E 56 kX8_law [.ref V] G (fun r G1 => r = (if xk1 ((lawU f tn X9 ww9 wn9 dp9).1.2 = -1) = 0 then (lawU f tn X9 ww9 wn9 dp9).2.1.1 else nI 0) ∧ ∃ (nn : Nat → Int32) (at2 dp2 we2 sh2 so2 : Int32), G1 = gs (gs G (V + 1) (aI 750 nn)) V (mO V (nI (xk1 ((lawU f tn X9 ww9 wn9 dp9).1.2 = -1))) hi (if xk1 ((lawU f tn X9 ww9 wn9 dp9).1.2 = -1) = 0 then nI 0 else ac) (nI 0) (-1) (nI tn) at2 (lawU f tn X9 ww9 wn9 dp9).1.2 dp2 io hm_ we2 sh2 so2) ∧ (xk1 ((lawU f tn X9 ww9 wn9 dp9).1.2 = -1) = 0 → nn 1 = (lawU f tn X9 ww9 wn9 dp9).2.1.1 ∧ nn 2 = nI tn ∧ (∀ i, i < tn → nn (350 + i) = nI (f i)) ∧ ∀ j, j < 350 → j ≠ 1 → j ≠ 2 → nn j = mm j) ∧ (¬ xk1 ((lawU f tn X9 ww9 wn9 dp9).1.2 = -1) = 0 → nn = mm)) := by
  subst htp
  obtain ⟨F0, h6⟩ := h6
  have hgm : ∀ x, gs (gs G (V + 1) (aI 750 mm)) V x = gs G V x := fun x => by rw [gs_id hm]
  refine Ct.intro rfl (by decide) [.ref V, .float 0, .float 0] (by simp [Value.category]) (Nat.le_of_ble_eq_true rfl) rfl ?_
  refine w_aload_n dX8_law_0 rfl ?_
  refine wV0n dX8_law_1 lk_X8_148 rfl (by first | assumption | exact gs_at | (rw [gs_ne (by omega)]; (first | assumption | exact gs_at | (rw [gs_ne (by omega)]; (first | assumption | exact gs_at | (rw [gs_ne (by omega)]; (first | assumption | exact gs_at | (rw [gs_ne (by omega)]; (first | assumption | exact gs_at))))))))) rfl rfl (m_begins hV) (Nat.le_of_ble_eq_true rfl) (Nat.le_of_ble_eq_true rfl) (Nat.le_of_ble_eq_true rfl) (Nat.le_of_ble_eq_true rfl) ?_
  refine w_aload_n dX8_law_4 rfl ?_
  refine w_iconst (v := nI 1) dX8_law_5 (by decide) ?_
  refine wV1i dX8_law_6 lk_X8_151 rfl (by first | assumption | exact gs_at | (rw [gs_ne (by omega)]; (first | assumption | exact gs_at | (rw [gs_ne (by omega)]; (first | assumption | exact gs_at | (rw [gs_ne (by omega)]; (first | assumption | exact gs_at | (rw [gs_ne (by omega)]; (first | assumption | exact gs_at))))))))) rfl rfl (m_readL (y := f) (n := tn) (F := F0) (X0 := X9) (ww := ww9) (wn := wn9) (dp0 := dp9) gs_at (Or.inl ⟨rfl, (gs_ne (by omega)).trans hT5⟩) htn hf ((gs_ne (by omega)).trans h6)) (Nat.le_of_ble_eq_true rfl) (Nat.le_of_ble_eq_true rfl) (Nat.le_of_ble_eq_true rfl) (Nat.le_of_ble_eq_true rfl) (fun r_6 G_6 h_6 => ?_)
  obtain ⟨j, p2, dp2, fa2, we2, sh2, so2, rfl, hG2, hf2, hv⟩ := h_6
  rw [gs_gs] at hG2
  subst hG2
  have hf2 : fa2 = (lawU f tn X9 ww9 wn9 dp9).1.2 := hf2
  refine w_istore_1 dX8_law_9 rfl ?_
  refine w_aload_n dX8_law_10 rfl ?_
  refine w_aload_n dX8_law_11 rfl ?_
  refine w_getf dX8_law_12 fl_X8_25 (by first | assumption | exact gs_at | (rw [gs_ne (by omega)]; (first | assumption | exact gs_at | (rw [gs_ne (by omega)]; (first | assumption | exact gs_at | (rw [gs_ne (by omega)]; (first | assumption | exact gs_at | (rw [gs_ne (by omega)]; (first | assumption | exact gs_at))))))))) rfl ?_
  refine w_iconst (v := (-1)) dX8_law_15 (by decide) ?_
  refine w_icmp_eq (tgt := 23) dX8_law_16 (by decide) (fun c_16 => ?_) (fun c_16 => ?_)
  · try simp only [ne_eq] at c_16
    have kx : xk1 ((lawU f tn X9 ww9 wn9 dp9).1.2 = -1) = 0 := by rw [xk1, if_pos (by rw [← hf2]; exact c_16)]
    obtain ⟨hj1, hj2, -⟩ := hv c_16
    have hj1 : (lawU f tn X9 ww9 wn9 dp9).2.1.1 = nI j := (congrArg (fun q : LX × (Nat → Int32) × Nat × Int32 => q.1.1) uEnd_X).trans hj1
    refine w_iconst (v := nI 0) dX8_law_23 (by decide) ?_
    refine w_putf dX8_law_24 fl_X8_39 (by first | assumption | exact gs_at | (rw [gs_ne (by omega)]; (first | assumption | exact gs_at | (rw [gs_ne (by omega)]; (first | assumption | exact gs_at | (rw [gs_ne (by omega)]; (first | assumption | exact gs_at | (rw [gs_ne (by omega)]; (first | assumption | exact gs_at))))))))) (by simp) rfl rfl ?_
    refine w_aload_n dX8_law_27 rfl ?_
    refine w_getf dX8_law_28 fl_X8_39 (by first | assumption | exact gs_at | (rw [gs_ne (by omega)]; (first | assumption | exact gs_at | (rw [gs_ne (by omega)]; (first | assumption | exact gs_at | (rw [gs_ne (by omega)]; (first | assumption | exact gs_at | (rw [gs_ne (by omega)]; (first | assumption | exact gs_at))))))))) rfl ?_
    refine w_ifN_le (tgt := 36) dX8_law_31 (by decide) (fun c_31 => ?_) (fun c_31 => ?_)
    · try simp only [ne_eq] at c_31
      refine w_aload_n dX8_law_36 rfl ?_
      refine w_getf dX8_law_37 fl_X8_7 (by first | assumption | exact gs_at | (rw [gs_ne (by omega)]; (first | assumption | exact gs_at | (rw [gs_ne (by omega)]; (first | assumption | exact gs_at | (rw [gs_ne (by omega)]; (first | assumption | exact gs_at | (rw [gs_ne (by omega)]; (first | assumption | exact gs_at))))))))) rfl ?_
      refine w_iconst (v := nI 1) dX8_law_40 (by decide) ?_
      refine w_iload_n dX8_law_41 rfl ?_
      refine w_iastore dX8_law_42 (by first | assumption | exact gs_at | (rw [gs_ne (by omega)]; (first | assumption | exact gs_at | (rw [gs_ne (by omega)]; (first | assumption | exact gs_at | (rw [gs_ne (by omega)]; (first | assumption | exact gs_at | (rw [gs_ne (by omega)]; (first | assumption | exact gs_at))))))))) (by first | assumption | exact vp_in_nI (by omega) (by omega) | exact vp_in_nI (by assumption) (by omega)) ?_
      rw [nI_clamp (by omega)]
      refine w_aload_n dX8_law_43 rfl ?_
      refine w_getf dX8_law_44 fl_X8_7 (by first | assumption | exact gs_at | (rw [gs_ne (by omega)]; (first | assumption | exact gs_at | (rw [gs_ne (by omega)]; (first | assumption | exact gs_at | (rw [gs_ne (by omega)]; (first | assumption | exact gs_at | (rw [gs_ne (by omega)]; (first | assumption | exact gs_at))))))))) rfl ?_
      refine w_iconst (v := nI 2) dX8_law_47 (by decide) ?_
      refine w_aload_n dX8_law_48 rfl ?_
      refine w_getf dX8_law_49 fl_X8_59 (by first | assumption | exact gs_at | (rw [gs_ne (by omega)]; (first | assumption | exact gs_at | (rw [gs_ne (by omega)]; (first | assumption | exact gs_at | (rw [gs_ne (by omega)]; (first | assumption | exact gs_at | (rw [gs_ne (by omega)]; (first | assumption | exact gs_at))))))))) rfl ?_
      refine w_iastore dX8_law_52 (by first | assumption | exact gs_at | (rw [gs_ne (by omega)]; (first | assumption | exact gs_at | (rw [gs_ne (by omega)]; (first | assumption | exact gs_at | (rw [gs_ne (by omega)]; (first | assumption | exact gs_at | (rw [gs_ne (by omega)]; (first | assumption | exact gs_at))))))))) (by first | assumption | exact vp_in_nI (by omega) (by omega) | exact vp_in_nI (by assumption) (by omega)) ?_
      rw [nI_clamp (by omega)]
      refine w_iconst (v := nI 0) dX8_law_53 (by decide) ?_
      refine w_istore_2 dX8_law_54 rfl ?_
      skip
      have hN1 : ∀ q, q < 350 → q ≠ 1 → q ≠ 2 → (upd (upd mm 1 (nI j)) 2 (nI tn)) q = mm q := fun q a b c => by rw [upd_ne c, upd_ne b]
      simp only [gs_gs]
      rw [gs_comm (a := V) (b := V + 1) (by omega)]
      refine ml_law55 (n0 := upd (upd mm 1 (nI j)) 2 (nI tn)) htn hT5 (fun nn h1 h2 => ?_) (tn + 1) 0 _ (by omega) (by omega) (fun j hj => absurd hj (by omega)) (fun j hj => rfl)
      refine ⟨_, rfl, by rw [kx, if_pos rfl, hj1], nn, _, _, _, _, _, by rw [kx, if_pos rfl, ← hf2], fun _ => ⟨?_, ?_, h1, fun q a b c => (h2 q a).trans (hN1 q a b c)⟩, fun h => absurd kx h⟩
      · rw [h2 1 (by decide), upd_ne (by decide), upd_at, hj1]
      · rw [h2 2 (by decide), upd_at]
    · try simp only [ne_eq] at c_31
      exact absurd (by decide) c_31
  · try simp only [ne_eq] at c_16
    have kx : xk1 ((lawU f tn X9 ww9 wn9 dp9).1.2 = -1) = 1 := by rw [xk1, if_neg (by rw [← hf2]; exact c_16)]
    have k0 : ¬ xk1 ((lawU f tn X9 ww9 wn9 dp9).1.2 = -1) = 0 := by omega
    refine w_iconst (v := nI 1) dX8_law_19 (by decide) ?_
    refine w_goto (tgt := 24) dX8_law_20 (by decide) ?_
    refine w_putf dX8_law_24 fl_X8_39 (by first | assumption | exact gs_at | (rw [gs_ne (by omega)]; (first | assumption | exact gs_at | (rw [gs_ne (by omega)]; (first | assumption | exact gs_at | (rw [gs_ne (by omega)]; (first | assumption | exact gs_at | (rw [gs_ne (by omega)]; (first | assumption | exact gs_at))))))))) (by simp) rfl rfl ?_
    refine w_aload_n dX8_law_27 rfl ?_
    refine w_getf dX8_law_28 fl_X8_39 (by first | assumption | exact gs_at | (rw [gs_ne (by omega)]; (first | assumption | exact gs_at | (rw [gs_ne (by omega)]; (first | assumption | exact gs_at | (rw [gs_ne (by omega)]; (first | assumption | exact gs_at | (rw [gs_ne (by omega)]; (first | assumption | exact gs_at))))))))) rfl ?_
    refine w_ifN_le (tgt := 36) dX8_law_31 (by decide) (fun c_31 => ?_) (fun c_31 => ?_)
    · try simp only [ne_eq] at c_31
      exact absurd c_31 (by decide)
    · try simp only [ne_eq] at c_31
      refine w_iconst (v := nI 0) dX8_law_34 (by decide) ?_
      refine w_iret dX8_law_35 rfl (Nat.le_of_ble_eq_true rfl) (Nat.le_of_ble_eq_true rfl) ?_
      exact ⟨_, rfl, by rw [if_neg k0], mm, _, _, _, _, _, by rw [kx, ← hf2, hgm, gs_gs]; rfl, fun h => absurd h k0, fun _ => rfl⟩
