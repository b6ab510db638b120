/-! the model: acts -/
def APost (G : AH) (V : Nat) (c : HC) (mm : Nat → Int32) (T2 : ST) (s2 : Int32) (rm2 nw2 : Nat) (P2 : Nat → ST × Int32) (G1 : AH) : Prop := ∃ a nn, G1 = gs (gs (gs G (V + 4) (aI 4200 a)) (V + 1) (aI 750 nn)) V c ∧ MoR nn T2 s2 ∧ Keep mm nn ∧ ActR a mm rm2 nw2 P2
theorem mr_m_carry {E : EV} {Q : OC → AH → Prop} {V : Nat} {th hi ac tp ba en at_ fa dp io hm_ we sh so : Int32} {G : AH} {x y : Int32} {j : Nat} (hV : G.1 V = some (mO V th hi ac tp ba en at_ fa dp io hm_ we sh so)) (hj : 0 < j ∧ j < 4) (hQ : Q (.inl (some (.int (nI 0)))) (gs G V (mO V (nI j) hi ac tp ba en at_ fa dp io hm_ we sh so))) : Wp E 3 0 0 kX8_carry Q G (0, 0) 21 [.ref V, .int x, .int y, .float 0] [.int (nI j), .ref V] := by
  refine w_putf dX8_carry_21 fl_X8_39 (by first | assumption | exact gs_at | (rw [gs_ne (by omega)]; (first | assumption | exact gs_at | (rw [gs_ne (by omega)]; (first | assumption | exact gs_at | (rw [gs_ne (by omega)]; (first | assumption | exact gs_at | (rw [gs_ne (by omega)]; (first | assumption | exact gs_at))))))))) (by simp) rfl rfl ?_
  refine w_aload_n dX8_carry_24 rfl ?_
  refine w_getf dX8_carry_25 fl_X8_39 (by first | assumption | exact gs_at | (rw [gs_ne (by omega)]; (first | assumption | exact gs_at | (rw [gs_ne (by omega)]; (first | assumption | exact gs_at | (rw [gs_ne (by omega)]; (first | assumption | exact gs_at | (rw [gs_ne (by omega)]; (first | assumption | exact gs_at))))))))) rfl ?_
  refine w_ifN_le (tgt := 33) dX8_carry_28 (by decide) (fun c_28 => ?_) (fun c_28 => ?_)
  · try simp (disch := omega) only [nI_b2, Decidable.not_not, nI_ltI, nI_leI, nI_eq, ge_iff_le, gt_iff_lt, ne_eq, Nat.not_lt, Nat.not_le] at c_28
    exact absurd c_28 (by omega)
  · try simp (disch := omega) only [nI_b2, Decidable.not_not, nI_ltI, nI_leI, nI_eq, ge_iff_le, gt_iff_lt, ne_eq, Nat.not_lt, Nat.not_le] at c_28
    refine w_iconst (v := nI 0) dX8_carry_31 (by decide) ?_
    refine w_iret dX8_carry_32 rfl (Nat.le_of_ble_eq_true rfl) (Nat.le_of_ble_eq_true rfl) ?_
    exact hQ
theorem mk_m_carry {E : EV} {Q : OC → AH → Prop} {V : Nat} {th hi ac tp ba en at_ fa dp io hm_ we sh so : Int32} {mm : Nat → Int32} {T : ST} {sd : Int32} {G : AH} {av : Nat → Int32} {rm nw : Nat} {P : Nat → ST × Int32} {i j : Nat} (hi9 : i < T 12 0) (hj9 : j < 6) (hV : G.1 V = some (mO V th hi ac tp ba en at_ fa dp io hm_ we sh so)) (hm : G.1 (V + 1) = some (aI 750 mm)) (hR : MoR mm T sd) (hB : Bd T) (hac : ac = nI rm) (hrm : rm ≤ 12) (hnw : nw < 12) (ha4 : G.1 (V + 4) = some (aI 4200 av)) (hA : ActR av mm rm nw P) (hPB : ∀ i, i < 12 → Bd (P i).1) (hQ : ∀ G1, APost G V (mO V (nI 0) hi (nI (min 12 (rm + 1))) tp ba en at_ fa dp io hm_ we sh so) mm (tu T 1 i j) (sd) (min 12 (rm + 1)) ((nw + 1) % 12) (updP P ((nw + 1) % 12) (T, sd)) G1 → Q (.inl (some (.int (nI (T 1 i))))) G1) : Wp E 3 0 0 kX8_carry Q G (0, 0) 21 [.ref V, .int (nI i), .int (nI j), .float 0] [.int (nI 0), .ref V] := by
  obtain ⟨r0, r3, r4, r5, r6, r7, r9, r11, r12, r14, r20, r26, rL⟩ := id hR
  obtain ⟨b0, b1, b2_, b3, b4, b5, b6, b7, b8, b9, b10, b11, b12, b13, b14, b15, b16, b17, b18, b19⟩ := id hB
  have hV2 : (gs G V (mO V (nI 0) hi ac tp ba en at_ fa dp io hm_ we sh so)).1 V = some (mO V (nI 0) hi ac tp ba en at_ fa dp io hm_ we sh so) := gs_at
  have hm2 : (gs G V (mO V (nI 0) hi ac tp ba en at_ fa dp io hm_ we sh so)).1 (V + 1) = some (aI 750 mm) := (gs_ne (by omega)).trans hm
  have ha42 : (gs G V (mO V (nI 0) hi ac tp ba en at_ fa dp io hm_ we sh so)).1 (V + 4) = some (aI 4200 av) := (gs_ne (by omega)).trans ha4
  refine w_putf dX8_carry_21 fl_X8_39 (by first | assumption | exact gs_at | (rw [gs_ne (by omega)]; (first | assumption | exact gs_at | (rw [gs_ne (by omega)]; (first | assumption | exact gs_at | (rw [gs_ne (by omega)]; (first | assumption | exact gs_at | (rw [gs_ne (by omega)]; (first | assumption | exact gs_at))))))))) (by simp) rfl rfl ?_
  refine w_aload_n dX8_carry_24 rfl ?_
  refine w_getf dX8_carry_25 fl_X8_39 (by first | assumption | exact gs_at | (rw [gs_ne (by omega)]; (first | assumption | exact gs_at | (rw [gs_ne (by omega)]; (first | assumption | exact gs_at | (rw [gs_ne (by omega)]; (first | assumption | exact gs_at | (rw [gs_ne (by omega)]; (first | assumption | exact gs_at))))))))) rfl ?_
  refine w_ifN_le (tgt := 33) dX8_carry_28 (by decide) (fun c_28 => ?_) (fun c_28 => ?_)
  · try simp (disch := omega) only [nI_b2, Decidable.not_not, nI_ltI, nI_leI, nI_eq, ge_iff_le, gt_iff_lt, ne_eq, Nat.not_lt, Nat.not_le] at c_28
    refine w_aload_n dX8_carry_33 rfl ?_
    refine wV0d dX8_carry_34 lk_X8_295 rfl (by first | assumption | exact gs_at | (rw [gs_ne (by omega)]; (first | assumption | exact gs_at | (rw [gs_ne (by omega)]; (first | assumption | exact gs_at | (rw [gs_ne (by omega)]; (first | assumption | exact gs_at | (rw [gs_ne (by omega)]; (first | assumption | exact gs_at))))))))) rfl rfl (m_remembers hV2 hm2 hR hB hac hrm hnw ha42 hA hPB) (Nat.le_of_ble_eq_true rfl) (Nat.le_of_ble_eq_true rfl) (Nat.le_of_ble_eq_true rfl) (Nat.le_of_ble_eq_true rfl) (fun G9 h_34 => ?_)
    obtain ⟨a, hG9, hA9⟩ := h_34
    rw [gs_comm (a := V) (b := V + 4) (by omega), gs_gs] at hG9
    subst hG9
    have hV3 : (gs (gs G (V + 4) (aI 4200 a)) V (mO V (nI 0) hi (nI (min 12 (rm + 1))) tp ba en at_ fa dp io hm_ we sh so)).1 V = some (mO V (nI 0) hi (nI (min 12 (rm + 1))) tp ba en at_ fa dp io hm_ we sh so) := gs_at
    have hm3 : (gs (gs G (V + 4) (aI 4200 a)) V (mO V (nI 0) hi (nI (min 12 (rm + 1))) tp ba en at_ fa dp io hm_ we sh so)).1 (V + 1) = some (aI 750 mm) := (gs_ne (by omega)).trans ((gs_ne (by omega)).trans hm)
    refine w_aload_n dX8_carry_37 rfl ?_
    refine w_iload_n dX8_carry_38 rfl ?_
    refine w_iconst (v := nI 1) dX8_carry_39 (by decide) ?_
    refine wV2u dX8_carry_40 lk_X8_46 rfl (by first | assumption | exact gs_at | (rw [gs_ne (by omega)]; (first | assumption | exact gs_at | (rw [gs_ne (by omega)]; (first | assumption | exact gs_at | (rw [gs_ne (by omega)]; (first | assumption | exact gs_at | (rw [gs_ne (by omega)]; (first | assumption | exact gs_at))))))))) rfl rfl (m_of (w := 1) hV3 hm3 hR hB (by omega) (by decide)) (Nat.le_of_ble_eq_true rfl) (Nat.le_of_ble_eq_true rfl) (Nat.le_of_ble_eq_true rfl) (Nat.le_of_ble_eq_true rfl) ?_
    refine w_istore_3 dX8_carry_43 rfl ?_
    refine w_aload_n dX8_carry_44 rfl ?_
    refine w_iload_n dX8_carry_45 rfl ?_
    refine w_iconst (v := nI 1) dX8_carry_46 (by decide) ?_
    refine w_iload_n dX8_carry_47 rfl ?_
    refine wV3n dX8_carry_48 lk_X8_103 rfl (by first | assumption | exact gs_at | (rw [gs_ne (by omega)]; (first | assumption | exact gs_at | (rw [gs_ne (by omega)]; (first | assumption | exact gs_at | (rw [gs_ne (by omega)]; (first | assumption | exact gs_at | (rw [gs_ne (by omega)]; (first | assumption | exact gs_at))))))))) rfl rfl (m_put (w := 1) hV3 hm3 hR hB (by omega) (by decide)) (Nat.le_of_ble_eq_true rfl) (Nat.le_of_ble_eq_true rfl) (Nat.le_of_ble_eq_true rfl) (Nat.le_of_ble_eq_true rfl) ?_
    refine w_iload_n dX8_carry_51 rfl ?_
    refine w_iret dX8_carry_52 rfl (Nat.le_of_ble_eq_true rfl) (Nat.le_of_ble_eq_true rfl) ?_
    exact hQ _ ⟨a, _, by rw [gs_comm (a := V) (b := V + 1) (by omega)], hR.pi (by omega) (by decide), Keep.up (by omega) (by omega) (by omega), hA9⟩
  · try simp (disch := omega) only [nI_b2, Decidable.not_not, nI_ltI, nI_leI, nI_eq, ge_iff_le, gt_iff_lt, ne_eq, Nat.not_lt, Nat.not_le] at c_28
    exact absurd c_28 (by decide)
theorem m_carry {E : EV} {V : Nat} {th hi ac tp ba en at_ fa dp io hm_ we sh so : Int32} {mm : Nat → Int32} {T : ST} {sd : Int32} {G : AH} {av : Nat → Int32} {rm nw : Nat} {P : Nat → ST × Int32} {x y : Int32} (hV : G.1 V = some (mO V th hi ac tp ba en at_ fa dp io hm_ we sh so)) (hm : G.1 (V + 1) = some (aI 750 mm)) (hR : MoR mm T sd) (hB : Bd T) (hac : ac = nI rm) (hrm : rm ≤ 12) (hnw : nw < 12) (ha4 : G.1 (V + 4) = some (aI 4200 av)) (hA : ActR av mm rm nw P) (hPB : ∀ i, i < 12 → Bd (P i).1)  : Ci E 3 kX8_carry [.ref V, .int x, .int y] G (fun r G1 => r = (if xk1 (okI (T 12 0) x ∧ okI 6 y) = 0 then nI (T 1 (ix x)) else nI 0) ∧ (xk1 (okI (T 12 0) x ∧ okI 6 y) = 0 → APost G V (mO V (nI 0) hi (nI (min 12 (rm + 1))) tp ba en at_ fa dp io hm_ we sh so) mm (tu T 1 (ix x) (ix y)) (sd) (min 12 (rm + 1)) ((nw + 1) % 12) (updP P ((nw + 1) % 12) (T, sd)) G1) ∧ (¬ xk1 (okI (T 12 0) x ∧ okI 6 y) = 0 → G1 = (gs G V (mO V (nI (xk1 (okI (T 12 0) x ∧ okI 6 y))) hi ac tp ba en at_ fa dp io hm_ we sh so)))) := by
  refine Ct.intro rfl (by decide) [.ref V, .int x, .int y, .float 0] (by simp [Value.category]) (Nat.le_of_ble_eq_true rfl) rfl ?_
  obtain ⟨r0, r3, r4, r5, r6, r7, r9, r11, r12, r14, r20, r26, rL⟩ := id hR
  obtain ⟨b0, b1, b2_, b3, b4, b5, b6, b7, b8, b9, b10, b11, b12, b13, b14, b15, b16, b17, b18, b19⟩ := id hB
  refine w_aload_n dX8_carry_0 rfl ?_
  refine w_aload_n dX8_carry_1 rfl ?_
  refine w_iload_n dX8_carry_2 rfl ?_
  refine wV1u dX8_carry_3 lk_X8_277 rfl (by first | assumption | exact gs_at | (rw [gs_ne (by omega)]; (first | assumption | exact gs_at | (rw [gs_ne (by omega)]; (first | assumption | exact gs_at | (rw [gs_ne (by omega)]; (first | assumption | exact gs_at | (rw [gs_ne (by omega)]; (first | assumption | exact gs_at))))))))) rfl rfl (m_isItem hV hm hR hB) (Nat.le_of_ble_eq_true rfl) (Nat.le_of_ble_eq_true rfl) (Nat.le_of_ble_eq_true rfl) (Nat.le_of_ble_eq_true rfl) ?_
  refine w_ifN_eq (tgt := 16) dX8_carry_6 (by decide) (fun c_6 => ?_) (fun c_6 => ?_)
  · try simp (disch := omega) only [nI_b2, Decidable.not_not, nI_ltI, nI_leI, nI_eq, ge_iff_le, gt_iff_lt, ne_eq, Nat.not_lt, Nat.not_le] at c_6
    refine w_iconst (v := nI 1) dX8_carry_16 (by decide) ?_
    refine w_goto (tgt := 21) dX8_carry_17 (by decide) ?_
    first
      | (have kx : xk1 (okI (T 12 0) x ∧ okI 6 y) = 1 := (by rw [xk1, if_neg (fun h => c_6 h.1)]); exact mr_m_carry hV (by decide) ⟨_, rfl, by rw [kx]; rfl, fun e => absurd (kx.symm.trans e) (by decide), fun _ => by rw [kx]⟩)
      | (have kx : xk1 (okI (T 12 0) x ∧ okI 6 y) = 1 := (by rw [xk1, if_neg (fun h => c_13 h.2)]); exact mr_m_carry hV (by decide) ⟨_, rfl, by rw [kx]; rfl, fun e => absurd (kx.symm.trans e) (by decide), fun _ => by rw [kx]⟩)
      | (have kx : xk1 (okI (T 12 0) x ∧ okI 6 y) = 0 := (by rw [xk1, if_pos ⟨c_6, c_13⟩]); obtain ⟨i, hi9, e⟩ := in_N (n := T 12 0) (by omega) c_6; subst e; obtain ⟨j, hj9, e3⟩ := in_N (n := 6) (by omega) c_13; subst e3; exact mk_m_carry hi9 hj9 hV hm hR hB hac hrm hnw ha4 hA hPB (fun G1 hG1 => ⟨_, rfl, by rw [kx, if_pos rfl, ix_nI (by omega)], fun _ => by rw [ix_nI (by omega), ix_nI (by omega)]; exact hG1, fun e => absurd kx e⟩))
  · try simp (disch := omega) only [nI_b2, Decidable.not_not, nI_ltI, nI_leI, nI_eq, ge_iff_le, gt_iff_lt, ne_eq, Nat.not_lt, Nat.not_le] at c_6
    refine w_iload_n dX8_carry_9 rfl ?_
    refine wS1u dX8_carry_10 lk_X8_280 rfl (m_isRoom) (Nat.le_of_ble_eq_true rfl) (Nat.le_of_ble_eq_true rfl) (Nat.le_of_ble_eq_true rfl) (Nat.le_of_ble_eq_true rfl) ?_
    refine w_ifN_ne (tgt := 20) dX8_carry_13 (by decide) (fun c_13 => ?_) (fun c_13 => ?_)
    · try simp (disch := omega) only [nI_b2, Decidable.not_not, nI_ltI, nI_leI, nI_eq, ge_iff_le, gt_iff_lt, ne_eq, Nat.not_lt, Nat.not_le] at c_13
      refine w_iconst (v := nI 0) dX8_carry_20 (by decide) ?_
      first
        | (have kx : xk1 (okI (T 12 0) x ∧ okI 6 y) = 1 := (by rw [xk1, if_neg (fun h => c_6 h.1)]); exact mr_m_carry hV (by decide) ⟨_, rfl, by rw [kx]; rfl, fun e => absurd (kx.symm.trans e) (by decide), fun _ => by rw [kx]⟩)
        | (have kx : xk1 (okI (T 12 0) x ∧ okI 6 y) = 1 := (by rw [xk1, if_neg (fun h => c_13 h.2)]); exact mr_m_carry hV (by decide) ⟨_, rfl, by rw [kx]; rfl, fun e => absurd (kx.symm.trans e) (by decide), fun _ => by rw [kx]⟩)
        | (have kx : xk1 (okI (T 12 0) x ∧ okI 6 y) = 0 := (by rw [xk1, if_pos ⟨c_6, c_13⟩]); obtain ⟨i, hi9, e⟩ := in_N (n := T 12 0) (by omega) c_6; subst e; obtain ⟨j, hj9, e3⟩ := in_N (n := 6) (by omega) c_13; subst e3; exact mk_m_carry hi9 hj9 hV hm hR hB hac hrm hnw ha4 hA hPB (fun G1 hG1 => ⟨_, rfl, by rw [kx, if_pos rfl, ix_nI (by omega)], fun _ => by rw [ix_nI (by omega), ix_nI (by omega)]; exact hG1, fun e => absurd kx e⟩))
    · try simp (disch := omega) only [nI_b2, Decidable.not_not, nI_ltI, nI_leI, nI_eq, ge_iff_le, gt_iff_lt, ne_eq, Nat.not_lt, Nat.not_le] at c_13
      refine w_iconst (v := nI 1) dX8_carry_16 (by decide) ?_
      refine w_goto (tgt := 21) dX8_carry_17 (by decide) ?_
      first
        | (have kx : xk1 (okI (T 12 0) x ∧ okI 6 y) = 1 := (by rw [xk1, if_neg (fun h => c_6 h.1)]); exact mr_m_carry hV (by decide) ⟨_, rfl, by rw [kx]; rfl, fun e => absurd (kx.symm.trans e) (by decide), fun _ => by rw [kx]⟩)
        | (have kx : xk1 (okI (T 12 0) x ∧ okI 6 y) = 1 := (by rw [xk1, if_neg (fun h => c_13 h.2)]); exact mr_m_carry hV (by decide) ⟨_, rfl, by rw [kx]; rfl, fun e => absurd (kx.symm.trans e) (by decide), fun _ => by rw [kx]⟩)
        | (have kx : xk1 (okI (T 12 0) x ∧ okI 6 y) = 0 := (by rw [xk1, if_pos ⟨c_6, c_13⟩]); obtain ⟨i, hi9, e⟩ := in_N (n := T 12 0) (by omega) c_6; subst e; obtain ⟨j, hj9, e3⟩ := in_N (n := 6) (by omega) c_13; subst e3; exact mk_m_carry hi9 hj9 hV hm hR hB hac hrm hnw ha4 hA hPB (fun G1 hG1 => ⟨_, rfl, by rw [kx, if_pos rfl, ix_nI (by omega)], fun _ => by rw [ix_nI (by omega), ix_nI (by omega)]; exact hG1, fun e => absurd kx e⟩))
theorem mr_m_mend {E : EV} {Q : OC → AH → Prop} {V : Nat} {th hi ac tp ba en at_ fa dp io hm_ we sh so : Int32} {G : AH} {x : Int32} {j : Nat} (hV : G.1 V = some (mO V th hi ac tp ba en at_ fa dp io hm_ we sh so)) (hj : 0 < j ∧ j < 4) (hQ : Q (.inl (some (.int (nI 0)))) (gs G V (mO V (nI j) hi ac tp ba en at_ fa dp io hm_ we sh so))) : Wp E 3 0 0 kX8_mend Q G (0, 0) 14 [.ref V, .int x] [.int (nI j), .ref V] := by
  refine w_putf dX8_mend_14 fl_X8_39 (by first | assumption | exact gs_at | (rw [gs_ne (by omega)]; (first | assumption | exact gs_at | (rw [gs_ne (by omega)]; (first | assumption | exact gs_at | (rw [gs_ne (by omega)]; (first | assumption | exact gs_at | (rw [gs_ne (by omega)]; (first | assumption | exact gs_at))))))))) (by simp) rfl rfl ?_
  refine w_aload_n dX8_mend_17 rfl ?_
  refine w_getf dX8_mend_18 fl_X8_39 (by first | assumption | exact gs_at | (rw [gs_ne (by omega)]; (first | assumption | exact gs_at | (rw [gs_ne (by omega)]; (first | assumption | exact gs_at | (rw [gs_ne (by omega)]; (first | assumption | exact gs_at | (rw [gs_ne (by omega)]; (first | assumption | exact gs_at))))))))) rfl ?_
  refine w_ifN_le (tgt := 26) dX8_mend_21 (by decide) (fun c_21 => ?_) (fun c_21 => ?_)
  · try simp (disch := omega) only [nI_b2, Decidable.not_not, nI_ltI, nI_leI, nI_eq, ge_iff_le, gt_iff_lt, ne_eq, Nat.not_lt, Nat.not_le] at c_21
    exact absurd c_21 (by omega)
  · try simp (disch := omega) only [nI_b2, Decidable.not_not, nI_ltI, nI_leI, nI_eq, ge_iff_le, gt_iff_lt, ne_eq, Nat.not_lt, Nat.not_le] at c_21
    refine w_iconst (v := nI 0) dX8_mend_24 (by decide) ?_
    refine w_iret dX8_mend_25 rfl (Nat.le_of_ble_eq_true rfl) (Nat.le_of_ble_eq_true rfl) ?_
    exact hQ
theorem mk_m_mend {E : EV} {Q : OC → AH → Prop} {V : Nat} {th hi ac tp ba en at_ fa dp io hm_ we sh so : Int32} {mm : Nat → Int32} {T : ST} {sd : Int32} {G : AH} {av : Nat → Int32} {rm nw : Nat} {P : Nat → ST × Int32} {i : Nat} (hi9 : i < T 12 0) (hV : G.1 V = some (mO V th hi ac tp ba en at_ fa dp io hm_ we sh so)) (hm : G.1 (V + 1) = some (aI 750 mm)) (hR : MoR mm T sd) (hB : Bd T) (hac : ac = nI rm) (hrm : rm ≤ 12) (hnw : nw < 12) (ha4 : G.1 (V + 4) = some (aI 4200 av)) (hA : ActR av mm rm nw P) (hPB : ∀ i, i < 12 → Bd (P i).1) (hQ : ∀ G1, APost G V (mO V (nI 0) hi (nI (min 12 (rm + 1))) tp ba en at_ fa dp io hm_ we sh so) mm (tu T 2 i (T 2 i - 5)) (sd) (min 12 (rm + 1)) ((nw + 1) % 12) (updP P ((nw + 1) % 12) (T, sd)) G1 → Q (.inl (some (.int (nI (T 2 i - 5))))) G1) : Wp E 3 0 0 kX8_mend Q G (0, 0) 14 [.ref V, .int (nI i)] [.int (nI 0), .ref V] := by
  obtain ⟨r0, r3, r4, r5, r6, r7, r9, r11, r12, r14, r20, r26, rL⟩ := id hR
  obtain ⟨b0, b1, b2_, b3, b4, b5, b6, b7, b8, b9, b10, b11, b12, b13, b14, b15, b16, b17, b18, b19⟩ := id hB
  have hV2 : (gs G V (mO V (nI 0) hi ac tp ba en at_ fa dp io hm_ we sh so)).1 V = some (mO V (nI 0) hi ac tp ba en at_ fa dp io hm_ we sh so) := gs_at
  have hm2 : (gs G V (mO V (nI 0) hi ac tp ba en at_ fa dp io hm_ we sh so)).1 (V + 1) = some (aI 750 mm) := (gs_ne (by omega)).trans hm
  have ha42 : (gs G V (mO V (nI 0) hi ac tp ba en at_ fa dp io hm_ we sh so)).1 (V + 4) = some (aI 4200 av) := (gs_ne (by omega)).trans ha4
  refine w_putf dX8_mend_14 fl_X8_39 (by first | assumption | exact gs_at | (rw [gs_ne (by omega)]; (first | assumption | exact gs_at | (rw [gs_ne (by omega)]; (first | assumption | exact gs_at | (rw [gs_ne (by omega)]; (first | assumption | exact gs_at | (rw [gs_ne (by omega)]; (first | assumption | exact gs_at))))))))) (by simp) rfl rfl ?_
  refine w_aload_n dX8_mend_17 rfl ?_
  refine w_getf dX8_mend_18 fl_X8_39 (by first | assumption | exact gs_at | (rw [gs_ne (by omega)]; (first | assumption | exact gs_at | (rw [gs_ne (by omega)]; (first | assumption | exact gs_at | (rw [gs_ne (by omega)]; (first | assumption | exact gs_at | (rw [gs_ne (by omega)]; (first | assumption | exact gs_at))))))))) rfl ?_
  refine w_ifN_le (tgt := 26) dX8_mend_21 (by decide) (fun c_21 => ?_) (fun c_21 => ?_)
  · try simp (disch := omega) only [nI_b2, Decidable.not_not, nI_ltI, nI_leI, nI_eq, ge_iff_le, gt_iff_lt, ne_eq, Nat.not_lt, Nat.not_le] at c_21
    refine w_aload_n dX8_mend_26 rfl ?_
    refine wV0d dX8_mend_27 lk_X8_295 rfl (by first | assumption | exact gs_at | (rw [gs_ne (by omega)]; (first | assumption | exact gs_at | (rw [gs_ne (by omega)]; (first | assumption | exact gs_at | (rw [gs_ne (by omega)]; (first | assumption | exact gs_at | (rw [gs_ne (by omega)]; (first | assumption | exact gs_at))))))))) rfl rfl (m_remembers hV2 hm2 hR hB hac hrm hnw ha42 hA hPB) (Nat.le_of_ble_eq_true rfl) (Nat.le_of_ble_eq_true rfl) (Nat.le_of_ble_eq_true rfl) (Nat.le_of_ble_eq_true rfl) (fun G9 h_27 => ?_)
    obtain ⟨a, hG9, hA9⟩ := h_27
    rw [gs_comm (a := V) (b := V + 4) (by omega), gs_gs] at hG9
    subst hG9
    have hV3 : (gs (gs G (V + 4) (aI 4200 a)) V (mO V (nI 0) hi (nI (min 12 (rm + 1))) tp ba en at_ fa dp io hm_ we sh so)).1 V = some (mO V (nI 0) hi (nI (min 12 (rm + 1))) tp ba en at_ fa dp io hm_ we sh so) := gs_at
    have hm3 : (gs (gs G (V + 4) (aI 4200 a)) V (mO V (nI 0) hi (nI (min 12 (rm + 1))) tp ba en at_ fa dp io hm_ we sh so)).1 (V + 1) = some (aI 750 mm) := (gs_ne (by omega)).trans ((gs_ne (by omega)).trans hm)
    refine w_aload_n dX8_mend_30 rfl ?_
    refine w_iload_n dX8_mend_31 rfl ?_
    refine w_iconst (v := nI 2) dX8_mend_32 (by decide) ?_
    refine w_iconst (v := nI 0) dX8_mend_33 (by decide) ?_
    refine w_aload_n dX8_mend_34 rfl ?_
    refine w_iload_n dX8_mend_35 rfl ?_
    refine w_iconst (v := nI 2) dX8_mend_36 (by decide) ?_
    refine wV2u dX8_mend_37 lk_X8_46 rfl (by first | assumption | exact gs_at | (rw [gs_ne (by omega)]; (first | assumption | exact gs_at | (rw [gs_ne (by omega)]; (first | assumption | exact gs_at | (rw [gs_ne (by omega)]; (first | assumption | exact gs_at | (rw [gs_ne (by omega)]; (first | assumption | exact gs_at))))))))) rfl rfl (m_of (w := 2) hV3 hm3 hR hB (by omega) (by decide)) (Nat.le_of_ble_eq_true rfl) (Nat.le_of_ble_eq_true rfl) (Nat.le_of_ble_eq_true rfl) (Nat.le_of_ble_eq_true rfl) ?_
    have hb3 := b3 i
    refine w_iconst (v := nI 5) dX8_mend_40 (by decide) ?_
    refine w_isub dX8_mend_41 ?_
    refine wS2u dX8_mend_42 lk_X8_219 rfl (m_greater0 (by omega) (by omega)) (Nat.le_of_ble_eq_true rfl) (Nat.le_of_ble_eq_true rfl) (Nat.le_of_ble_eq_true rfl) (Nat.le_of_ble_eq_true rfl) ?_
    refine wV3n dX8_mend_45 lk_X8_103 rfl (by first | assumption | exact gs_at | (rw [gs_ne (by omega)]; (first | assumption | exact gs_at | (rw [gs_ne (by omega)]; (first | assumption | exact gs_at | (rw [gs_ne (by omega)]; (first | assumption | exact gs_at | (rw [gs_ne (by omega)]; (first | assumption | exact gs_at))))))))) rfl rfl (m_put (w := 2) hV3 hm3 hR hB (by omega) (by decide)) (Nat.le_of_ble_eq_true rfl) (Nat.le_of_ble_eq_true rfl) (Nat.le_of_ble_eq_true rfl) (Nat.le_of_ble_eq_true rfl) ?_
    have hR4 := hR.pi (i := i) (w := 2) (x := T 2 i - 5) (by omega) (by decide)
    have hB4 : Bd (tu T 2 i (T 2 i - 5)) := hB.pu2 hi9 (by omega)
    refine w_aload_n dX8_mend_48 rfl ?_
    refine w_iload_n dX8_mend_49 rfl ?_
    refine w_iconst (v := nI 2) dX8_mend_50 (by decide) ?_
    refine wV2u dX8_mend_51 lk_X8_46 rfl (by first | assumption | exact gs_at | (rw [gs_ne (by omega)]; (first | assumption | exact gs_at | (rw [gs_ne (by omega)]; (first | assumption | exact gs_at | (rw [gs_ne (by omega)]; (first | assumption | exact gs_at | (rw [gs_ne (by omega)]; (first | assumption | exact gs_at))))))))) rfl rfl (m_of (w := 2) ((gs_ne (by omega)).trans hV3) gs_at hR4 hB4 (by omega) (by decide)) (Nat.le_of_ble_eq_true rfl) (Nat.le_of_ble_eq_true rfl) (Nat.le_of_ble_eq_true rfl) (Nat.le_of_ble_eq_true rfl) ?_
    rw [tu_at]
    refine w_iret dX8_mend_54 rfl (Nat.le_of_ble_eq_true rfl) (Nat.le_of_ble_eq_true rfl) ?_
    exact hQ _ ⟨a, _, by rw [gs_comm (a := V) (b := V + 1) (by omega)], hR4, Keep.up (by omega) (by omega) (by omega), hA9⟩
  · try simp (disch := omega) only [nI_b2, Decidable.not_not, nI_ltI, nI_leI, nI_eq, ge_iff_le, gt_iff_lt, ne_eq, Nat.not_lt, Nat.not_le] at c_21
    exact absurd c_21 (by decide)
theorem m_mend {E : EV} {V : Nat} {th hi ac tp ba en at_ fa dp io hm_ we sh so : Int32} {mm : Nat → Int32} {T : ST} {sd : Int32} {G : AH} {av : Nat → Int32} {rm nw : Nat} {P : Nat → ST × Int32} {x : Int32} (hV : G.1 V = some (mO V th hi ac tp ba en at_ fa dp io hm_ we sh so)) (hm : G.1 (V + 1) = some (aI 750 mm)) (hR : MoR mm T sd) (hB : Bd T) (hac : ac = nI rm) (hrm : rm ≤ 12) (hnw : nw < 12) (ha4 : G.1 (V + 4) = some (aI 4200 av)) (hA : ActR av mm rm nw P) (hPB : ∀ i, i < 12 → Bd (P i).1)  : Ci E 3 kX8_mend [.ref V, .int x] G (fun r G1 => r = (if xk1 (okI (T 12 0) x) = 0 then nI (T 2 (ix x) - 5) else nI 0) ∧ (xk1 (okI (T 12 0) x) = 0 → APost G V (mO V (nI 0) hi (nI (min 12 (rm + 1))) tp ba en at_ fa dp io hm_ we sh so) mm (tu T 2 (ix x) (T 2 (ix x) - 5)) (sd) (min 12 (rm + 1)) ((nw + 1) % 12) (updP P ((nw + 1) % 12) (T, sd)) G1) ∧ (¬ xk1 (okI (T 12 0) x) = 0 → G1 = (gs G V (mO V (nI (xk1 (okI (T 12 0) x))) hi ac tp ba en at_ fa dp io hm_ we sh so)))) := by
  refine Ct.intro rfl (by decide) [.ref V, .int x] (by simp [Value.category]) (Nat.le_of_ble_eq_true rfl) rfl ?_
  obtain ⟨r0, r3, r4, r5, r6, r7, r9, r11, r12, r14, r20, r26, rL⟩ := id hR
  obtain ⟨b0, b1, b2_, b3, b4, b5, b6, b7, b8, b9, b10, b11, b12, b13, b14, b15, b16, b17, b18, b19⟩ := id hB
  refine w_aload_n dX8_mend_0 rfl ?_
  refine w_aload_n dX8_mend_1 rfl ?_
  refine w_iload_n dX8_mend_2 rfl ?_
  refine wV1u dX8_mend_3 lk_X8_277 rfl (by first | assumption | exact gs_at | (rw [gs_ne (by omega)]; (first | assumption | exact gs_at | (rw [gs_ne (by omega)]; (first | assumption | exact gs_at | (rw [gs_ne (by omega)]; (first | assumption | exact gs_at | (rw [gs_ne (by omega)]; (first | assumption | exact gs_at))))))))) rfl rfl (m_isItem hV hm hR hB) (Nat.le_of_ble_eq_true rfl) (Nat.le_of_ble_eq_true rfl) (Nat.le_of_ble_eq_true rfl) (Nat.le_of_ble_eq_true rfl) ?_
  refine w_ifN_ne (tgt := 13) dX8_mend_6 (by decide) (fun c_6 => ?_) (fun c_6 => ?_)
  · try simp (disch := omega) only [nI_b2, Decidable.not_not, nI_ltI, nI_leI, nI_eq, ge_iff_le, gt_iff_lt, ne_eq, Nat.not_lt, Nat.not_le] at c_6
    refine w_iconst (v := nI 0) dX8_mend_13 (by decide) ?_
    first
      | (have kx : xk1 (okI (T 12 0) x) = 1 := (by rw [xk1, if_neg c_6]); exact mr_m_mend hV (by decide) ⟨_, rfl, by rw [kx]; rfl, fun e => absurd (kx.symm.trans e) (by decide), fun _ => by rw [kx]⟩)
      | (have kx : xk1 (okI (T 12 0) x) = 0 := (by rw [xk1, if_pos c_6]); obtain ⟨i, hi9, e⟩ := in_N (n := T 12 0) (by omega) c_6; subst e; exact mk_m_mend hi9 hV hm hR hB hac hrm hnw ha4 hA hPB (fun G1 hG1 => ⟨_, rfl, by rw [kx, if_pos rfl, ix_nI (by omega)], fun _ => by rw [ix_nI (by omega)]; exact hG1, fun e => absurd kx e⟩))
  · try simp (disch := omega) only [nI_b2, Decidable.not_not, nI_ltI, nI_leI, nI_eq, ge_iff_le, gt_iff_lt, ne_eq, Nat.not_lt, Nat.not_le] at c_6
    refine w_iconst (v := nI 1) dX8_mend_9 (by decide) ?_
    refine w_goto (tgt := 14) dX8_mend_10 (by decide) ?_
    first
      | (have kx : xk1 (okI (T 12 0) x) = 1 := (by rw [xk1, if_neg c_6]); exact mr_m_mend hV (by decide) ⟨_, rfl, by rw [kx]; rfl, fun e => absurd (kx.symm.trans e) (by decide), fun _ => by rw [kx]⟩)
      | (have kx : xk1 (okI (T 12 0) x) = 0 := (by rw [xk1, if_pos c_6]); obtain ⟨i, hi9, e⟩ := in_N (n := T 12 0) (by omega) c_6; subst e; exact mk_m_mend hi9 hV hm hR hB hac hrm hnw ha4 hA hPB (fun G1 hG1 => ⟨_, rfl, by rw [kx, if_pos rfl, ix_nI (by omega)], fun _ => by rw [ix_nI (by omega)]; exact hG1, fun e => absurd kx e⟩))
theorem mr_m_sweep {E : EV} {Q : OC → AH → Prop} {V : Nat} {th hi ac tp ba en at_ fa dp io hm_ we sh so : Int32} {G : AH} {x : Int32} {j : Nat} (hV : G.1 V = some (mO V th hi ac tp ba en at_ fa dp io hm_ we sh so)) (hj : 0 < j ∧ j < 4) (hQ : Q (.inl (some (.int (nI 0)))) (gs G V (mO V (nI j) hi ac tp ba en at_ fa dp io hm_ we sh so))) : Wp E 3 0 0 kX8_sweep Q G (0, 0) 13 [.ref V, .int x, .float 0] [.int (nI j), .ref V] := by
  refine w_putf dX8_sweep_13 fl_X8_39 (by first | assumption | exact gs_at | (rw [gs_ne (by omega)]; (first | assumption | exact gs_at | (rw [gs_ne (by omega)]; (first | assumption | exact gs_at | (rw [gs_ne (by omega)]; (first | assumption | exact gs_at | (rw [gs_ne (by omega)]; (first | assumption | exact gs_at))))))))) (by simp) rfl rfl ?_
  refine w_aload_n dX8_sweep_16 rfl ?_
  refine w_getf dX8_sweep_17 fl_X8_39 (by first | assumption | exact gs_at | (rw [gs_ne (by omega)]; (first | assumption | exact gs_at | (rw [gs_ne (by omega)]; (first | assumption | exact gs_at | (rw [gs_ne (by omega)]; (first | assumption | exact gs_at | (rw [gs_ne (by omega)]; (first | assumption | exact gs_at))))))))) rfl ?_
  refine w_ifN_le (tgt := 25) dX8_sweep_20 (by decide) (fun c_20 => ?_) (fun c_20 => ?_)
  · try simp (disch := omega) only [nI_b2, Decidable.not_not, nI_ltI, nI_leI, nI_eq, ge_iff_le, gt_iff_lt, ne_eq, Nat.not_lt, Nat.not_le] at c_20
    exact absurd c_20 (by omega)
  · try simp (disch := omega) only [nI_b2, Decidable.not_not, nI_ltI, nI_leI, nI_eq, ge_iff_le, gt_iff_lt, ne_eq, Nat.not_lt, Nat.not_le] at c_20
    refine w_iconst (v := nI 0) dX8_sweep_23 (by decide) ?_
    refine w_iret dX8_sweep_24 rfl (Nat.le_of_ble_eq_true rfl) (Nat.le_of_ble_eq_true rfl) ?_
    exact hQ
theorem mk_m_sweep {E : EV} {Q : OC → AH → Prop} {V : Nat} {th hi ac tp ba en at_ fa dp io hm_ we sh so : Int32} {mm : Nat → Int32} {T : ST} {sd : Int32} {G : AH} {av : Nat → Int32} {rm nw : Nat} {P : Nat → ST × Int32} {i : Nat} (hi9 : i < 6) (hV : G.1 V = some (mO V th hi ac tp ba en at_ fa dp io hm_ we sh so)) (hm : G.1 (V + 1) = some (aI 750 mm)) (hR : MoR mm T sd) (hB : Bd T) (hac : ac = nI rm) (hrm : rm ≤ 12) (hnw : nw < 12) (ha4 : G.1 (V + 4) = some (aI 4200 av)) (hA : ActR av mm rm nw P) (hPB : ∀ i, i < 12 → Bd (P i).1) (hQ : ∀ G1, APost G V (mO V (nI 0) hi (nI (min 12 (rm + 1))) tp ba en at_ fa dp io hm_ we sh so) mm (tu T 7 i 0) (sd) (min 12 (rm + 1)) ((nw + 1) % 12) (updP P ((nw + 1) % 12) (T, sd)) G1 → Q (.inl (some (.int (nI (T 7 i))))) G1) : Wp E 3 0 0 kX8_sweep Q G (0, 0) 13 [.ref V, .int (nI i), .float 0] [.int (nI 0), .ref V] := by
  obtain ⟨r0, r3, r4, r5, r6, r7, r9, r11, r12, r14, r20, r26, rL⟩ := id hR
  obtain ⟨b0, b1, b2_, b3, b4, b5, b6, b7, b8, b9, b10, b11, b12, b13, b14, b15, b16, b17, b18, b19⟩ := id hB
  have hV2 : (gs G V (mO V (nI 0) hi ac tp ba en at_ fa dp io hm_ we sh so)).1 V = some (mO V (nI 0) hi ac tp ba en at_ fa dp io hm_ we sh so) := gs_at
  have hm2 : (gs G V (mO V (nI 0) hi ac tp ba en at_ fa dp io hm_ we sh so)).1 (V + 1) = some (aI 750 mm) := (gs_ne (by omega)).trans hm
  have ha42 : (gs G V (mO V (nI 0) hi ac tp ba en at_ fa dp io hm_ we sh so)).1 (V + 4) = some (aI 4200 av) := (gs_ne (by omega)).trans ha4
  refine w_putf dX8_sweep_13 fl_X8_39 (by first | assumption | exact gs_at | (rw [gs_ne (by omega)]; (first | assumption | exact gs_at | (rw [gs_ne (by omega)]; (first | assumption | exact gs_at | (rw [gs_ne (by omega)]; (first | assumption | exact gs_at | (rw [gs_ne (by omega)]; (first | assumption | exact gs_at))))))))) (by simp) rfl rfl ?_
  refine w_aload_n dX8_sweep_16 rfl ?_
  refine w_getf dX8_sweep_17 fl_X8_39 (by first | assumption | exact gs_at | (rw [gs_ne (by omega)]; (first | assumption | exact gs_at | (rw [gs_ne (by omega)]; (first | assumption | exact gs_at | (rw [gs_ne (by omega)]; (first | assumption | exact gs_at | (rw [gs_ne (by omega)]; (first | assumption | exact gs_at))))))))) rfl ?_
  refine w_ifN_le (tgt := 25) dX8_sweep_20 (by decide) (fun c_20 => ?_) (fun c_20 => ?_)
  · try simp (disch := omega) only [nI_b2, Decidable.not_not, nI_ltI, nI_leI, nI_eq, ge_iff_le, gt_iff_lt, ne_eq, Nat.not_lt, Nat.not_le] at c_20
    refine w_aload_n dX8_sweep_25 rfl ?_
    refine wV0d dX8_sweep_26 lk_X8_295 rfl (by first | assumption | exact gs_at | (rw [gs_ne (by omega)]; (first | assumption | exact gs_at | (rw [gs_ne (by omega)]; (first | assumption | exact gs_at | (rw [gs_ne (by omega)]; (first | assumption | exact gs_at | (rw [gs_ne (by omega)]; (first | assumption | exact gs_at))))))))) rfl rfl (m_remembers hV2 hm2 hR hB hac hrm hnw ha42 hA hPB) (Nat.le_of_ble_eq_true rfl) (Nat.le_of_ble_eq_true rfl) (Nat.le_of_ble_eq_true rfl) (Nat.le_of_ble_eq_true rfl) (fun G9 h_26 => ?_)
    obtain ⟨a, hG9, hA9⟩ := h_26
    rw [gs_comm (a := V) (b := V + 4) (by omega), gs_gs] at hG9
    subst hG9
    have hV3 : (gs (gs G (V + 4) (aI 4200 a)) V (mO V (nI 0) hi (nI (min 12 (rm + 1))) tp ba en at_ fa dp io hm_ we sh so)).1 V = some (mO V (nI 0) hi (nI (min 12 (rm + 1))) tp ba en at_ fa dp io hm_ we sh so) := gs_at
    have hm3 : (gs (gs G (V + 4) (aI 4200 a)) V (mO V (nI 0) hi (nI (min 12 (rm + 1))) tp ba en at_ fa dp io hm_ we sh so)).1 (V + 1) = some (aI 750 mm) := (gs_ne (by omega)).trans ((gs_ne (by omega)).trans hm)
    refine w_aload_n dX8_sweep_29 rfl ?_
    refine w_getf dX8_sweep_30 fl_X8_7 (by first | assumption | exact gs_at | (rw [gs_ne (by omega)]; (first | assumption | exact gs_at | (rw [gs_ne (by omega)]; (first | assumption | exact gs_at | (rw [gs_ne (by omega)]; (first | assumption | exact gs_at | (rw [gs_ne (by omega)]; (first | assumption | exact gs_at))))))))) rfl ?_
    refine w_bipush (v := nI 14) dX8_sweep_33 (by decide) ?_
    refine w_iload_n dX8_sweep_35 rfl ?_
    first | refine w_iaddN dX8_sweep_36 ?_ | refine w_iadd dX8_sweep_36 ?_
    refine w_iaload dX8_sweep_37 (by first | assumption | exact gs_at | (rw [gs_ne (by omega)]; (first | assumption | exact gs_at | (rw [gs_ne (by omega)]; (first | assumption | exact gs_at | (rw [gs_ne (by omega)]; (first | assumption | exact gs_at | (rw [gs_ne (by omega)]; (first | assumption | exact gs_at))))))))) (by first | assumption | exact vp_in_nI (by omega) (by omega) | exact vp_in_nI (by assumption) (by omega)) ?_
    rw [nI_clamp (by omega)]
    first | rw [r3] | rw [r4] | rw [r5] | rw [r6] | rw [r0] | rw [r11] | rw [r12] | rw [r7 _ (by omega)] | rw [r9 _ (by omega)] | rw [r14 _ (by omega)] | rw [r20 _ (by omega)] | rw [r26 _ _ (by omega) (by omega)] | skip
    refine w_istore_2 dX8_sweep_38 rfl ?_
    refine w_aload_n dX8_sweep_39 rfl ?_
    refine w_getf dX8_sweep_40 fl_X8_7 (by first | assumption | exact gs_at | (rw [gs_ne (by omega)]; (first | assumption | exact gs_at | (rw [gs_ne (by omega)]; (first | assumption | exact gs_at | (rw [gs_ne (by omega)]; (first | assumption | exact gs_at | (rw [gs_ne (by omega)]; (first | assumption | exact gs_at))))))))) rfl ?_
    refine w_bipush (v := nI 14) dX8_sweep_43 (by decide) ?_
    refine w_iload_n dX8_sweep_45 rfl ?_
    first | refine w_iaddN dX8_sweep_46 ?_ | refine w_iadd dX8_sweep_46 ?_
    refine w_iconst (v := nI 0) dX8_sweep_47 (by decide) ?_
    refine w_iastore dX8_sweep_48 (by first | assumption | exact gs_at | (rw [gs_ne (by omega)]; (first | assumption | exact gs_at | (rw [gs_ne (by omega)]; (first | assumption | exact gs_at | (rw [gs_ne (by omega)]; (first | assumption | exact gs_at | (rw [gs_ne (by omega)]; (first | assumption | exact gs_at))))))))) (by first | assumption | exact vp_in_nI (by omega) (by omega) | exact vp_in_nI (by assumption) (by omega)) ?_
    rw [nI_clamp (by omega)]
    refine w_iload_n dX8_sweep_49 rfl ?_
    refine w_iret dX8_sweep_50 rfl (Nat.le_of_ble_eq_true rfl) (Nat.le_of_ble_eq_true rfl) ?_
    exact hQ _ ⟨a, _, by rw [gs_comm (a := V) (b := V + 1) (by omega)], hR.p7 (x := 0) hi9, Keep.up (by omega) (by omega) (by omega), hA9⟩
  · try simp (disch := omega) only [nI_b2, Decidable.not_not, nI_ltI, nI_leI, nI_eq, ge_iff_le, gt_iff_lt, ne_eq, Nat.not_lt, Nat.not_le] at c_20
    exact absurd c_20 (by decide)
theorem m_sweep {E : EV} {V : Nat} {th hi ac tp ba en at_ fa dp io hm_ we sh so : Int32} {mm : Nat → Int32} {T : ST} {sd : Int32} {G : AH} {av : Nat → Int32} {rm nw : Nat} {P : Nat → ST × Int32} {x : Int32} (hV : G.1 V = some (mO V th hi ac tp ba en at_ fa dp io hm_ we sh so)) (hm : G.1 (V + 1) = some (aI 750 mm)) (hR : MoR mm T sd) (hB : Bd T) (hac : ac = nI rm) (hrm : rm ≤ 12) (hnw : nw < 12) (ha4 : G.1 (V + 4) = some (aI 4200 av)) (hA : ActR av mm rm nw P) (hPB : ∀ i, i < 12 → Bd (P i).1)  : Ci E 3 kX8_sweep [.ref V, .int x] G (fun r G1 => r = (if xk1 (okI 6 x) = 0 then nI (T 7 (ix x)) else nI 0) ∧ (xk1 (okI 6 x) = 0 → APost G V (mO V (nI 0) hi (nI (min 12 (rm + 1))) tp ba en at_ fa dp io hm_ we sh so) mm (tu T 7 (ix x) 0) (sd) (min 12 (rm + 1)) ((nw + 1) % 12) (updP P ((nw + 1) % 12) (T, sd)) G1) ∧ (¬ xk1 (okI 6 x) = 0 → G1 = (gs G V (mO V (nI (xk1 (okI 6 x))) hi ac tp ba en at_ fa dp io hm_ we sh so)))) := by
  refine Ct.intro rfl (by decide) [.ref V, .int x, .float 0] (by simp [Value.category]) (Nat.le_of_ble_eq_true rfl) rfl ?_
  obtain ⟨r0, r3, r4, r5, r6, r7, r9, r11, r12, r14, r20, r26, rL⟩ := id hR
  obtain ⟨b0, b1, b2_, b3, b4, b5, b6, b7, b8, b9, b10, b11, b12, b13, b14, b15, b16, b17, b18, b19⟩ := id hB
  refine w_aload_n dX8_sweep_0 rfl ?_
  refine w_iload_n dX8_sweep_1 rfl ?_
  refine wS1u dX8_sweep_2 lk_X8_280 rfl (m_isRoom) (Nat.le_of_ble_eq_true rfl) (Nat.le_of_ble_eq_true rfl) (Nat.le_of_ble_eq_true rfl) (Nat.le_of_ble_eq_true rfl) ?_
  refine w_ifN_ne (tgt := 12) dX8_sweep_5 (by decide) (fun c_5 => ?_) (fun c_5 => ?_)
  · try simp (disch := omega) only [nI_b2, Decidable.not_not, nI_ltI, nI_leI, nI_eq, ge_iff_le, gt_iff_lt, ne_eq, Nat.not_lt, Nat.not_le] at c_5
    refine w_iconst (v := nI 0) dX8_sweep_12 (by decide) ?_
    first
      | (have kx : xk1 (okI 6 x) = 1 := (by rw [xk1, if_neg c_5]); exact mr_m_sweep hV (by decide) ⟨_, rfl, by rw [kx]; rfl, fun e => absurd (kx.symm.trans e) (by decide), fun _ => by rw [kx]⟩)
      | (have kx : xk1 (okI 6 x) = 0 := (by rw [xk1, if_pos c_5]); obtain ⟨i, hi9, e⟩ := in_N (n := 6) (by omega) c_5; subst e; exact mk_m_sweep hi9 hV hm hR hB hac hrm hnw ha4 hA hPB (fun G1 hG1 => ⟨_, rfl, by rw [kx, if_pos rfl, ix_nI (by omega)], fun _ => by rw [ix_nI (by omega)]; exact hG1, fun e => absurd kx e⟩))
  · try simp (disch := omega) only [nI_b2, Decidable.not_not, nI_ltI, nI_leI, nI_eq, ge_iff_le, gt_iff_lt, ne_eq, Nat.not_lt, Nat.not_le] at c_5
    refine w_iconst (v := nI 1) dX8_sweep_8 (by decide) ?_
    refine w_goto (tgt := 13) dX8_sweep_9 (by decide) ?_
    first
      | (have kx : xk1 (okI 6 x) = 1 := (by rw [xk1, if_neg c_5]); exact mr_m_sweep hV (by decide) ⟨_, rfl, by rw [kx]; rfl, fun e => absurd (kx.symm.trans e) (by decide), fun _ => by rw [kx]⟩)
      | (have kx : xk1 (okI 6 x) = 0 := (by rw [xk1, if_pos c_5]); obtain ⟨i, hi9, e⟩ := in_N (n := 6) (by omega) c_5; subst e; exact mk_m_sweep hi9 hV hm hR hB hac hrm hnw ha4 hA hPB (fun G1 hG1 => ⟨_, rfl, by rw [kx, if_pos rfl, ix_nI (by omega)], fun _ => by rw [ix_nI (by omega)]; exact hG1, fun e => absurd kx e⟩))
theorem mr_m_pay {E : EV} {Q : OC → AH → Prop} {V : Nat} {th hi ac tp ba en at_ fa dp io hm_ we sh so : Int32} {G : AH} {x y : Int32} {j : Nat} (hV : G.1 V = some (mO V th hi ac tp ba en at_ fa dp io hm_ we sh so)) (hj : 0 < j ∧ j < 4) (hQ : Q (.inl (some (.int (nI 0)))) (gs G V (mO V (nI j) hi ac tp ba en at_ fa dp io hm_ we sh so))) : Wp E 2 0 0 kX8_pay Q G (0, 0) 36 [.ref V, .int x, .int y] [.int (nI j), .ref V] := by
  refine w_putf dX8_pay_36 fl_X8_39 (by first | assumption | exact gs_at | (rw [gs_ne (by omega)]; (first | assumption | exact gs_at | (rw [gs_ne (by omega)]; (first | assumption | exact gs_at | (rw [gs_ne (by omega)]; (first | assumption | exact gs_at | (rw [gs_ne (by omega)]; (first | assumption | exact gs_at))))))))) (by simp) rfl rfl ?_
  refine w_aload_n dX8_pay_39 rfl ?_
  refine w_getf dX8_pay_40 fl_X8_39 (by first | assumption | exact gs_at | (rw [gs_ne (by omega)]; (first | assumption | exact gs_at | (rw [gs_ne (by omega)]; (first | assumption | exact gs_at | (rw [gs_ne (by omega)]; (first | assumption | exact gs_at | (rw [gs_ne (by omega)]; (first | assumption | exact gs_at))))))))) rfl ?_
  refine w_ifN_le (tgt := 48) dX8_pay_43 (by decide) (fun c_43 => ?_) (fun c_43 => ?_)
  · try simp (disch := omega) only [nI_b2, Decidable.not_not, nI_ltI, nI_leI, nI_eq, ge_iff_le, gt_iff_lt, ne_eq, Nat.not_lt, Nat.not_le] at c_43
    exact absurd c_43 (by omega)
  · try simp (disch := omega) only [nI_b2, Decidable.not_not, nI_ltI, nI_leI, nI_eq, ge_iff_le, gt_iff_lt, ne_eq, Nat.not_lt, Nat.not_le] at c_43
    refine w_iconst (v := nI 0) dX8_pay_46 (by decide) ?_
    refine w_iret dX8_pay_47 rfl (Nat.le_of_ble_eq_true rfl) (Nat.le_of_ble_eq_true rfl) ?_
    exact hQ
theorem mk_m_pay {E : EV} {Q : OC → AH → Prop} {V : Nat} {th hi ac tp ba en at_ fa dp io hm_ we sh so : Int32} {mm : Nat → Int32} {T : ST} {sd : Int32} {G : AH} {av : Nat → Int32} {rm nw : Nat} {P : Nat → ST × Int32} {i j : Nat} (hi9 : i < 2) (hj8 : 1 ≤ j) (hj9 : j ≤ T 10 i) (hV : G.1 V = some (mO V th hi ac tp ba en at_ fa dp io hm_ we sh so)) (hm : G.1 (V + 1) = some (aI 750 mm)) (hR : MoR mm T sd) (hB : Bd T) (hac : ac = nI rm) (hrm : rm ≤ 12) (hnw : nw < 12) (ha4 : G.1 (V + 4) = some (aI 4200 av)) (hA : ActR av mm rm nw P) (hPB : ∀ i, i < 12 → Bd (P i).1) (hQ : ∀ G1, APost G V (mO V (nI 0) hi (nI (min 12 (rm + 1))) tp ba en at_ fa dp io hm_ we sh so) mm (tu T 10 i (T 10 i - j)) (sd) (min 12 (rm + 1)) ((nw + 1) % 12) (updP P ((nw + 1) % 12) (T, sd)) G1 → Q (.inl (some (.int (nI (T 10 i - j))))) G1) : Wp E 2 0 0 kX8_pay Q G (0, 0) 36 [.ref V, .int (nI i), .int (nI j)] [.int (nI 0), .ref V] := by
  obtain ⟨r0, r3, r4, r5, r6, r7, r9, r11, r12, r14, r20, r26, rL⟩ := id hR
  obtain ⟨b0, b1, b2_, b3, b4, b5, b6, b7, b8, b9, b10, b11, b12, b13, b14, b15, b16, b17, b18, b19⟩ := id hB
  have hV2 : (gs G V (mO V (nI 0) hi ac tp ba en at_ fa dp io hm_ we sh so)).1 V = some (mO V (nI 0) hi ac tp ba en at_ fa dp io hm_ we sh so) := gs_at
  have hm2 : (gs G V (mO V (nI 0) hi ac tp ba en at_ fa dp io hm_ we sh so)).1 (V + 1) = some (aI 750 mm) := (gs_ne (by omega)).trans hm
  have ha42 : (gs G V (mO V (nI 0) hi ac tp ba en at_ fa dp io hm_ we sh so)).1 (V + 4) = some (aI 4200 av) := (gs_ne (by omega)).trans ha4
  refine w_putf dX8_pay_36 fl_X8_39 (by first | assumption | exact gs_at | (rw [gs_ne (by omega)]; (first | assumption | exact gs_at | (rw [gs_ne (by omega)]; (first | assumption | exact gs_at | (rw [gs_ne (by omega)]; (first | assumption | exact gs_at | (rw [gs_ne (by omega)]; (first | assumption | exact gs_at))))))))) (by simp) rfl rfl ?_
  refine w_aload_n dX8_pay_39 rfl ?_
  refine w_getf dX8_pay_40 fl_X8_39 (by first | assumption | exact gs_at | (rw [gs_ne (by omega)]; (first | assumption | exact gs_at | (rw [gs_ne (by omega)]; (first | assumption | exact gs_at | (rw [gs_ne (by omega)]; (first | assumption | exact gs_at | (rw [gs_ne (by omega)]; (first | assumption | exact gs_at))))))))) rfl ?_
  refine w_ifN_le (tgt := 48) dX8_pay_43 (by decide) (fun c_43 => ?_) (fun c_43 => ?_)
  · try simp (disch := omega) only [nI_b2, Decidable.not_not, nI_ltI, nI_leI, nI_eq, ge_iff_le, gt_iff_lt, ne_eq, Nat.not_lt, Nat.not_le] at c_43
    refine w_aload_n dX8_pay_48 rfl ?_
    refine wV0d dX8_pay_49 lk_X8_295 rfl (by first | assumption | exact gs_at | (rw [gs_ne (by omega)]; (first | assumption | exact gs_at | (rw [gs_ne (by omega)]; (first | assumption | exact gs_at | (rw [gs_ne (by omega)]; (first | assumption | exact gs_at | (rw [gs_ne (by omega)]; (first | assumption | exact gs_at))))))))) rfl rfl (m_remembers hV2 hm2 hR hB hac hrm hnw ha42 hA hPB) (Nat.le_of_ble_eq_true rfl) (Nat.le_of_ble_eq_true rfl) (Nat.le_of_ble_eq_true rfl) (Nat.le_of_ble_eq_true rfl) (fun G9 h_49 => ?_)
    obtain ⟨a, hG9, hA9⟩ := h_49
    rw [gs_comm (a := V) (b := V + 4) (by omega), gs_gs] at hG9
    subst hG9
    have hV3 : (gs (gs G (V + 4) (aI 4200 a)) V (mO V (nI 0) hi (nI (min 12 (rm + 1))) tp ba en at_ fa dp io hm_ we sh so)).1 V = some (mO V (nI 0) hi (nI (min 12 (rm + 1))) tp ba en at_ fa dp io hm_ we sh so) := gs_at
    have hm3 : (gs (gs G (V + 4) (aI 4200 a)) V (mO V (nI 0) hi (nI (min 12 (rm + 1))) tp ba en at_ fa dp io hm_ we sh so)).1 (V + 1) = some (aI 750 mm) := (gs_ne (by omega)).trans ((gs_ne (by omega)).trans hm)
    refine w_aload_n dX8_pay_52 rfl ?_
    refine w_getf dX8_pay_53 fl_X8_7 (by first | assumption | exact gs_at | (rw [gs_ne (by omega)]; (first | assumption | exact gs_at | (rw [gs_ne (by omega)]; (first | assumption | exact gs_at | (rw [gs_ne (by omega)]; (first | assumption | exact gs_at | (rw [gs_ne (by omega)]; (first | assumption | exact gs_at))))))))) rfl ?_
    refine w_bipush (v := nI 9) dX8_pay_56 (by decide) ?_
    refine w_iload_n dX8_pay_58 rfl ?_
    first | refine w_iaddN dX8_pay_59 ?_ | refine w_iadd dX8_pay_59 ?_
    refine w_dup2 dX8_pay_60 rfl rfl ?_
    have hb11 := b11 i
    refine w_iaload dX8_pay_61 (by first | assumption | exact gs_at | (rw [gs_ne (by omega)]; (first | assumption | exact gs_at | (rw [gs_ne (by omega)]; (first | assumption | exact gs_at | (rw [gs_ne (by omega)]; (first | assumption | exact gs_at | (rw [gs_ne (by omega)]; (first | assumption | exact gs_at))))))))) (by first | assumption | exact vp_in_nI (by omega) (by omega) | exact vp_in_nI (by assumption) (by omega)) ?_
    rw [nI_clamp (by omega)]
    rw [r9 i hi9]
    refine w_iload_n dX8_pay_62 rfl ?_
    refine w_isubN hj9 dX8_pay_63 ?_
    refine w_iastore dX8_pay_64 (by first | assumption | exact gs_at | (rw [gs_ne (by omega)]; (first | assumption | exact gs_at | (rw [gs_ne (by omega)]; (first | assumption | exact gs_at | (rw [gs_ne (by omega)]; (first | assumption | exact gs_at | (rw [gs_ne (by omega)]; (first | assumption | exact gs_at))))))))) (by first | assumption | exact vp_in_nI (by omega) (by omega) | exact vp_in_nI (by assumption) (by omega)) ?_
    rw [nI_clamp (by omega)]
    refine w_aload_n dX8_pay_65 rfl ?_
    refine w_getf dX8_pay_66 fl_X8_7 (by first | assumption | exact gs_at | (rw [gs_ne (by omega)]; (first | assumption | exact gs_at | (rw [gs_ne (by omega)]; (first | assumption | exact gs_at | (rw [gs_ne (by omega)]; (first | assumption | exact gs_at | (rw [gs_ne (by omega)]; (first | assumption | exact gs_at))))))))) rfl ?_
    refine w_bipush (v := nI 9) dX8_pay_69 (by decide) ?_
    refine w_iload_n dX8_pay_71 rfl ?_
    first | refine w_iaddN dX8_pay_72 ?_ | refine w_iadd dX8_pay_72 ?_
    refine w_iaload dX8_pay_73 (by first | assumption | exact gs_at | (rw [gs_ne (by omega)]; (first | assumption | exact gs_at | (rw [gs_ne (by omega)]; (first | assumption | exact gs_at | (rw [gs_ne (by omega)]; (first | assumption | exact gs_at | (rw [gs_ne (by omega)]; (first | assumption | exact gs_at))))))))) (by first | assumption | exact vp_in_nI (by omega) (by omega) | exact vp_in_nI (by assumption) (by omega)) ?_
    rw [nI_clamp (by omega)]
    rw [upd_at]
    refine w_iret dX8_pay_74 rfl (Nat.le_of_ble_eq_true rfl) (Nat.le_of_ble_eq_true rfl) ?_
    exact hQ _ ⟨a, _, by rw [gs_comm (a := V) (b := V + 1) (by omega)], hR.p10 (x := T 10 i - j) hi9, Keep.up (by omega) (by omega) (by omega), hA9⟩
  · try simp (disch := omega) only [nI_b2, Decidable.not_not, nI_ltI, nI_leI, nI_eq, ge_iff_le, gt_iff_lt, ne_eq, Nat.not_lt, Nat.not_le] at c_43
    exact absurd c_43 (by decide)
theorem m_pay {E : EV} {V : Nat} {th hi ac tp ba en at_ fa dp io hm_ we sh so : Int32} {mm : Nat → Int32} {T : ST} {sd : Int32} {G : AH} {av : Nat → Int32} {rm nw : Nat} {P : Nat → ST × Int32} {x y : Int32} (hV : G.1 V = some (mO V th hi ac tp ba en at_ fa dp io hm_ we sh so)) (hm : G.1 (V + 1) = some (aI 750 mm)) (hR : MoR mm T sd) (hB : Bd T) (hac : ac = nI rm) (hrm : rm ≤ 12) (hnw : nw < 12) (ha4 : G.1 (V + 4) = some (aI 4200 av)) (hA : ActR av mm rm nw P) (hPB : ∀ i, i < 12 → Bd (P i).1) : Ci E 2 kX8_pay [.ref V, .int x, .int y] G (fun r G1 => r = (if xk2 (okI 2 x) (okN 1 (nI (T 10 (ix x))) y) = 0 then nI (T 10 (ix x) - ix y) else nI 0) ∧ (xk2 (okI 2 x) (okN 1 (nI (T 10 (ix x))) y) = 0 → APost G V (mO V (nI 0) hi (nI (min 12 (rm + 1))) tp ba en at_ fa dp io hm_ we sh so) mm (tu T 10 (ix x) (T 10 (ix x) - ix y)) (sd) (min 12 (rm + 1)) ((nw + 1) % 12) (updP P ((nw + 1) % 12) (T, sd)) G1) ∧ (¬ xk2 (okI 2 x) (okN 1 (nI (T 10 (ix x))) y) = 0 → G1 = (gs G V (mO V (nI (xk2 (okI 2 x) (okN 1 (nI (T 10 (ix x))) y))) hi ac tp ba en at_ fa dp io hm_ we sh so)))) := by
  refine Ct.intro rfl (by decide) [.ref V, .int x, .int y] (by simp [Value.category]) (Nat.le_of_ble_eq_true rfl) rfl ?_
  obtain ⟨r0, r3, r4, r5, r6, r7, r9, r11, r12, r14, r20, r26, rL⟩ := id hR
  obtain ⟨b0, b1, b2_, b3, b4, b5, b6, b7, b8, b9, b10, b11, b12, b13, b14, b15, b16, b17, b18, b19⟩ := id hB
  refine w_aload_n dX8_pay_0 rfl ?_
  refine w_iload_n dX8_pay_1 rfl ?_
  refine w_iconst (v := nI 0) dX8_pay_2 (by decide) ?_
  refine w_iconst (v := nI 1) dX8_pay_3 (by decide) ?_
  refine wS3u dX8_pay_4 lk_X8_42 rfl (m_isIn) (Nat.le_of_ble_eq_true rfl) (Nat.le_of_ble_eq_true rfl) (Nat.le_of_ble_eq_true rfl) (Nat.le_of_ble_eq_true rfl) ?_
  refine w_ifN_ne (tgt := 14) dX8_pay_7 (by decide) (fun c_7 => ?_) (fun c_7 => ?_)
  · try simp (disch := omega) only [nI_b2, Decidable.not_not, nI_ltI, nI_leI, nI_eq, ge_iff_le, gt_iff_lt, ne_eq, Nat.not_lt, Nat.not_le] at c_7
    have c7 := okI2.mp c_7
    obtain ⟨i, hi9, e⟩ := in_N (n := 2) (by omega) c7
    subst e
    have hb11 := b11 i
    refine w_iload_n dX8_pay_14 rfl ?_
    refine w_iconst (v := nI 1) dX8_pay_15 (by decide) ?_
    refine w_aload_n dX8_pay_16 rfl ?_
    refine w_getf dX8_pay_17 fl_X8_7 (by first | assumption | exact gs_at | (rw [gs_ne (by omega)]; (first | assumption | exact gs_at | (rw [gs_ne (by omega)]; (first | assumption | exact gs_at | (rw [gs_ne (by omega)]; (first | assumption | exact gs_at | (rw [gs_ne (by omega)]; (first | assumption | exact gs_at))))))))) rfl ?_
    refine w_bipush (v := nI 9) dX8_pay_20 (by decide) ?_
    refine w_iload_n dX8_pay_22 rfl ?_
    first | refine w_iaddN dX8_pay_23 ?_ | refine w_iadd dX8_pay_23 ?_
    refine w_iaload dX8_pay_24 (by first | assumption | exact gs_at | (rw [gs_ne (by omega)]; (first | assumption | exact gs_at | (rw [gs_ne (by omega)]; (first | assumption | exact gs_at | (rw [gs_ne (by omega)]; (first | assumption | exact gs_at | (rw [gs_ne (by omega)]; (first | assumption | exact gs_at))))))))) (by first | assumption | exact vp_in_nI (by omega) (by omega) | exact vp_in_nI (by assumption) (by omega)) ?_
    rw [nI_clamp (by omega)]
    rw [r9 i hi9]
    refine wS3u dX8_pay_25 lk_X8_42 rfl (m_isIn) (Nat.le_of_ble_eq_true rfl) (Nat.le_of_ble_eq_true rfl) (Nat.le_of_ble_eq_true rfl) (Nat.le_of_ble_eq_true rfl) ?_
    refine w_ifN_ne (tgt := 35) dX8_pay_28 (by decide) (fun c_28 => ?_) (fun c_28 => ?_)
    · try simp (disch := omega) only [nI_b2, Decidable.not_not, nI_ltI, nI_leI, nI_eq, ge_iff_le, gt_iff_lt, ne_eq, Nat.not_lt, Nat.not_le] at c_28
      refine w_iconst (v := nI 0) dX8_pay_35 (by decide) ?_
      first
        | (have kx : xk2 (okI 2 x) (okN 1 (nI (T 10 (ix x))) y) = 1 := (by rw [xk2, if_neg (fun h => c_7 (okI2.mpr h))]); exact mr_m_pay hV (by decide) ⟨_, rfl, by rw [kx]; rfl, fun e => absurd (kx.symm.trans e) (by decide), fun _ => by rw [kx]⟩)
        | (have kx : xk2 (okI 2 (nI i)) (okN 1 (nI (T 10 (ix (nI i)))) y) = 2 := (by rw [xk2, if_pos c7, ix_nI (by omega), if_neg c_28]); exact mr_m_pay hV (by decide) ⟨_, rfl, by rw [kx]; rfl, fun e => absurd (kx.symm.trans e) (by decide), fun _ => by rw [kx]⟩)
        | (have kx : xk2 (okI 2 (nI i)) (okN 1 (nI (T 10 (ix (nI i)))) y) = 0 := (by rw [xk2, if_pos c7, ix_nI (by omega), if_pos c_28]); obtain ⟨j, hj8, hj9, e2⟩ := in_L (a := 1) (n := T 10 i) (by omega) (by omega) c_28; subst e2; exact mk_m_pay hi9 hj8 hj9 hV hm hR hB hac hrm hnw ha4 hA hPB (fun G1 hG1 => ⟨_, rfl, by rw [kx, if_pos rfl, ix_nI (by omega), ix_nI (by omega)], fun _ => by rw [ix_nI (by omega), ix_nI (by omega)]; exact hG1, fun e => absurd kx e⟩))
    · try simp (disch := omega) only [nI_b2, Decidable.not_not, nI_ltI, nI_leI, nI_eq, ge_iff_le, gt_iff_lt, ne_eq, Nat.not_lt, Nat.not_le] at c_28
      refine w_iconst (v := nI 2) dX8_pay_31 (by decide) ?_
      refine w_goto (tgt := 36) dX8_pay_32 (by decide) ?_
      first
        | (have kx : xk2 (okI 2 x) (okN 1 (nI (T 10 (ix x))) y) = 1 := (by rw [xk2, if_neg (fun h => c_7 (okI2.mpr h))]); exact mr_m_pay hV (by decide) ⟨_, rfl, by rw [kx]; rfl, fun e => absurd (kx.symm.trans e) (by decide), fun _ => by rw [kx]⟩)
        | (have kx : xk2 (okI 2 (nI i)) (okN 1 (nI (T 10 (ix (nI i)))) y) = 2 := (by rw [xk2, if_pos c7, ix_nI (by omega), if_neg c_28]); exact mr_m_pay hV (by decide) ⟨_, rfl, by rw [kx]; rfl, fun e => absurd (kx.symm.trans e) (by decide), fun _ => by rw [kx]⟩)
        | (have kx : xk2 (okI 2 (nI i)) (okN 1 (nI (T 10 (ix (nI i)))) y) = 0 := (by rw [xk2, if_pos c7, ix_nI (by omega), if_pos c_28]); obtain ⟨j, hj8, hj9, e2⟩ := in_L (a := 1) (n := T 10 i) (by omega) (by omega) c_28; subst e2; exact mk_m_pay hi9 hj8 hj9 hV hm hR hB hac hrm hnw ha4 hA hPB (fun G1 hG1 => ⟨_, rfl, by rw [kx, if_pos rfl, ix_nI (by omega), ix_nI (by omega)], fun _ => by rw [ix_nI (by omega), ix_nI (by omega)]; exact hG1, fun e => absurd kx e⟩))
  · try simp (disch := omega) only [nI_b2, Decidable.not_not, nI_ltI, nI_leI, nI_eq, ge_iff_le, gt_iff_lt, ne_eq, Nat.not_lt, Nat.not_le] at c_7
    refine w_iconst (v := nI 1) dX8_pay_10 (by decide) ?_
    refine w_goto (tgt := 36) dX8_pay_11 (by decide) ?_
    first
      | (have kx : xk2 (okI 2 x) (okN 1 (nI (T 10 (ix x))) y) = 1 := (by rw [xk2, if_neg (fun h => c_7 (okI2.mpr h))]); exact mr_m_pay hV (by decide) ⟨_, rfl, by rw [kx]; rfl, fun e => absurd (kx.symm.trans e) (by decide), fun _ => by rw [kx]⟩)
      | (have kx : xk2 (okI 2 (nI i)) (okN 1 (nI (T 10 (ix (nI i)))) y) = 2 := (by rw [xk2, if_pos c7, ix_nI (by omega), if_neg c_28]); exact mr_m_pay hV (by decide) ⟨_, rfl, by rw [kx]; rfl, fun e => absurd (kx.symm.trans e) (by decide), fun _ => by rw [kx]⟩)
      | (have kx : xk2 (okI 2 (nI i)) (okN 1 (nI (T 10 (ix (nI i)))) y) = 0 := (by rw [xk2, if_pos c7, ix_nI (by omega), if_pos c_28]); obtain ⟨j, hj8, hj9, e2⟩ := in_L (a := 1) (n := T 10 i) (by omega) (by omega) c_28; subst e2; exact mk_m_pay hi9 hj8 hj9 hV hm hR hB hac hrm hnw ha4 hA hPB (fun G1 hG1 => ⟨_, rfl, by rw [kx, if_pos rfl, ix_nI (by omega), ix_nI (by omega)], fun _ => by rw [ix_nI (by omega), ix_nI (by omega)]; exact hG1, fun e => absurd kx e⟩))
theorem m_take {E : EV} {V : Nat} {th hi ac tp ba en at_ fa dp io hm_ we sh so : Int32} {mm : Nat → Int32} {T : ST} {sd : Int32} {G : AH} {av : Nat → Int32} {rm nw : Nat} {P : Nat → ST × Int32} (hV : G.1 V = some (mO V th hi ac tp ba en at_ fa dp io hm_ we sh so)) (hm : G.1 (V + 1) = some (aI 750 mm)) (hR : MoR mm T sd) (hB : Bd T) (hac : ac = nI rm) (hrm : rm ≤ 12) (hnw : nw < 12) (ha4 : G.1 (V + 4) = some (aI 4200 av)) (hA : ActR av mm rm nw P) (hPB : ∀ i, i < 12 → Bd (P i).1) : Ci E 4 kX8_take [.ref V] G (fun r G1 => r = nI (cntN 12 (bitN (mis T) (T 12 0))) ∧ APost G V (mO V (nI 0) hi (nI (min 12 (rm + 1))) tp ba en at_ fa dp io hm_ we sh so) mm (takeT T) (sd) (min 12 (rm + 1)) ((nw + 1) % 12) (updP P ((nw + 1) % 12) (T, sd)) G1) := by
  obtain ⟨r0, r3, r4, r5, r6, r7, r9, r11, r12, r14, r20, r26, rL⟩ := id hR
  obtain ⟨b0, b1, b2_, b3, b4, b5, b6, b7, b8, b9, b10, b11, b12, b13, b14, b15, b16, b17, b18, b19⟩ := id hB
  have hV2 : (gs G V (mO V (nI 0) hi ac tp ba en at_ fa dp io hm_ we sh so)).1 V = some (mO V (nI 0) hi ac tp ba en at_ fa dp io hm_ we sh so) := gs_at
  have hm2 : (gs G V (mO V (nI 0) hi ac tp ba en at_ fa dp io hm_ we sh so)).1 (V + 1) = some (aI 750 mm) := (gs_ne (by omega)).trans hm
  have ha42 : (gs G V (mO V (nI 0) hi ac tp ba en at_ fa dp io hm_ we sh so)).1 (V + 4) = some (aI 4200 av) := (gs_ne (by omega)).trans ha4
  refine Ct.intro rfl (by decide) [.ref V, .float 0] (by simp [Value.category]) (Nat.le_of_ble_eq_true rfl) rfl ?_
  refine w_aload_n dX8_take_0 rfl ?_
  refine w_iconst (v := nI 0) dX8_take_1 (by decide) ?_
  refine w_putf dX8_take_2 fl_X8_39 (by first | assumption | exact gs_at | (rw [gs_ne (by omega)]; (first | assumption | exact gs_at | (rw [gs_ne (by omega)]; (first | assumption | exact gs_at | (rw [gs_ne (by omega)]; (first | assumption | exact gs_at | (rw [gs_ne (by omega)]; (first | assumption | exact gs_at))))))))) (by simp) rfl rfl ?_
  refine w_aload_n dX8_take_5 rfl ?_
  refine wV0d dX8_take_6 lk_X8_295 rfl (by first | assumption | exact gs_at | (rw [gs_ne (by omega)]; (first | assumption | exact gs_at | (rw [gs_ne (by omega)]; (first | assumption | exact gs_at | (rw [gs_ne (by omega)]; (first | assumption | exact gs_at | (rw [gs_ne (by omega)]; (first | assumption | exact gs_at))))))))) rfl rfl (m_remembers hV2 hm2 hR hB hac hrm hnw ha42 hA hPB) (Nat.le_of_ble_eq_true rfl) (Nat.le_of_ble_eq_true rfl) (Nat.le_of_ble_eq_true rfl) (Nat.le_of_ble_eq_true rfl) (fun G9 h_6 => ?_)
  obtain ⟨a, hG9, hA9⟩ := h_6
  rw [gs_comm (a := V) (b := V + 4) (by omega), gs_gs] at hG9
  subst hG9
  have hV3 : (gs (gs G (V + 4) (aI 4200 a)) V (mO V (nI 0) hi (nI (min 12 (rm + 1))) tp ba en at_ fa dp io hm_ we sh so)).1 V = some (mO V (nI 0) hi (nI (min 12 (rm + 1))) tp ba en at_ fa dp io hm_ we sh so) := gs_at
  have hm3 : (gs (gs G (V + 4) (aI 4200 a)) V (mO V (nI 0) hi (nI (min 12 (rm + 1))) tp ba en at_ fa dp io hm_ we sh so)).1 (V + 1) = some (aI 750 mm) := (gs_ne (by omega)).trans ((gs_ne (by omega)).trans hm)
  refine w_aload_n dX8_take_9 rfl ?_
  refine wV0u dX8_take_10 lk_X8_253 rfl (by first | assumption | exact gs_at | (rw [gs_ne (by omega)]; (first | assumption | exact gs_at | (rw [gs_ne (by omega)]; (first | assumption | exact gs_at | (rw [gs_ne (by omega)]; (first | assumption | exact gs_at | (rw [gs_ne (by omega)]; (first | assumption | exact gs_at))))))))) rfl rfl (m_missingOnes hV3 hm3 hR hB) (Nat.le_of_ble_eq_true rfl) (Nat.le_of_ble_eq_true rfl) (Nat.le_of_ble_eq_true rfl) (Nat.le_of_ble_eq_true rfl) ?_
  refine wS1u dX8_take_13 lk_X8_262 rfl (m_bits (bitN_12 _ b0)) (Nat.le_of_ble_eq_true rfl) (Nat.le_of_ble_eq_true rfl) (Nat.le_of_ble_eq_true rfl) (Nat.le_of_ble_eq_true rfl) ?_
  refine w_istore_1 dX8_take_16 rfl ?_
  refine w_aload_n dX8_take_17 rfl ?_
  refine wV0d dX8_take_18 lk_X8_265 rfl (by first | assumption | exact gs_at | (rw [gs_ne (by omega)]; (first | assumption | exact gs_at | (rw [gs_ne (by omega)]; (first | assumption | exact gs_at | (rw [gs_ne (by omega)]; (first | assumption | exact gs_at | (rw [gs_ne (by omega)]; (first | assumption | exact gs_at))))))))) rfl rfl (m_inventory hV3 hm3 hR hB) (Nat.le_of_ble_eq_true rfl) (Nat.le_of_ble_eq_true rfl) (Nat.le_of_ble_eq_true rfl) (Nat.le_of_ble_eq_true rfl) (fun Gz h_18 => ?_)
  obtain ⟨nn, hGz, hRz, hKz⟩ := h_18
  rw [gs_comm (a := V) (b := V + 1) (by omega)] at hGz
  subst hGz
  refine w_iload_n dX8_take_21 rfl ?_
  refine w_iret dX8_take_22 rfl (Nat.le_of_ble_eq_true rfl) (Nat.le_of_ble_eq_true rfl) ?_
  exact ⟨_, rfl, rfl, a, nn, rfl, hRz, hKz, hA9⟩
theorem m_seed {E : EV} {V : Nat} {th hi ac tp ba en at_ fa dp io hm_ we sh so : Int32} {mm : Nat → Int32} {T : ST} {sd : Int32} {G : AH} {x : Int32} (hV : G.1 V = some (mO V th hi ac tp ba en at_ fa dp io hm_ we sh so)) (hm : G.1 (V + 1) = some (aI 750 mm)) (hR : MoR mm T sd) (hB : Bd T) : Ci E 1 kX8_seed [.ref V, .int x] G (fun r G1 => r = sd ∧ ∃ nn, G1 = gs (gs G (V + 1) (aI 750 nn)) V (mO V (nI 0) hi ac tp ba en at_ fa dp io hm_ we sh so) ∧ MoR nn T x ∧ Keep mm nn) := by
  obtain ⟨r0, r3, r4, r5, r6, r7, r9, r11, r12, r14, r20, r26, rL⟩ := id hR
  obtain ⟨b0, b1, b2_, b3, b4, b5, b6, b7, b8, b9, b10, b11, b12, b13, b14, b15, b16, b17, b18, b19⟩ := id hB
  have hV2 : (gs G V (mO V (nI 0) hi ac tp ba en at_ fa dp io hm_ we sh so)).1 V = some (mO V (nI 0) hi ac tp ba en at_ fa dp io hm_ we sh so) := gs_at
  have hm2 : (gs G V (mO V (nI 0) hi ac tp ba en at_ fa dp io hm_ we sh so)).1 (V + 1) = some (aI 750 mm) := (gs_ne (by omega)).trans hm
  refine Ct.intro rfl (by decide) [.ref V, .int x, .float 0] (by simp [Value.category]) (Nat.le_of_ble_eq_true rfl) rfl ?_
  refine w_aload_n dX8_seed_0 rfl ?_
  refine w_iconst (v := nI 0) dX8_seed_1 (by decide) ?_
  refine w_putf dX8_seed_2 fl_X8_39 (by first | assumption | exact gs_at | (rw [gs_ne (by omega)]; (first | assumption | exact gs_at | (rw [gs_ne (by omega)]; (first | assumption | exact gs_at | (rw [gs_ne (by omega)]; (first | assumption | exact gs_at | (rw [gs_ne (by omega)]; (first | assumption | exact gs_at))))))))) (by simp) rfl rfl ?_
  refine w_aload_n dX8_seed_5 rfl ?_
  refine w_getf dX8_seed_6 fl_X8_7 (by first | assumption | exact gs_at | (rw [gs_ne (by omega)]; (first | assumption | exact gs_at | (rw [gs_ne (by omega)]; (first | assumption | exact gs_at | (rw [gs_ne (by omega)]; (first | assumption | exact gs_at | (rw [gs_ne (by omega)]; (first | assumption | exact gs_at))))))))) rfl ?_
  refine w_bipush (v := nI 12) dX8_seed_9 (by decide) ?_
  refine w_iaload dX8_seed_11 (by first | assumption | exact gs_at | (rw [gs_ne (by omega)]; (first | assumption | exact gs_at | (rw [gs_ne (by omega)]; (first | assumption | exact gs_at | (rw [gs_ne (by omega)]; (first | assumption | exact gs_at | (rw [gs_ne (by omega)]; (first | assumption | exact gs_at))))))))) (by first | assumption | exact vp_in_nI (by omega) (by omega) | exact vp_in_nI (by assumption) (by omega)) ?_
  rw [nI_clamp (by omega)]
  first | rw [r3] | rw [r4] | rw [r5] | rw [r6] | rw [r0] | rw [r11] | rw [r12] | rw [r7 _ (by omega)] | rw [r9 _ (by omega)] | rw [r14 _ (by omega)] | rw [r20 _ (by omega)] | rw [r26 _ _ (by omega) (by omega)] | skip
  refine w_istore_2 dX8_seed_12 rfl ?_
  refine w_aload_n dX8_seed_13 rfl ?_
  refine w_getf dX8_seed_14 fl_X8_7 (by first | assumption | exact gs_at | (rw [gs_ne (by omega)]; (first | assumption | exact gs_at | (rw [gs_ne (by omega)]; (first | assumption | exact gs_at | (rw [gs_ne (by omega)]; (first | assumption | exact gs_at | (rw [gs_ne (by omega)]; (first | assumption | exact gs_at))))))))) rfl ?_
  refine w_bipush (v := nI 12) dX8_seed_17 (by decide) ?_
  refine w_iload_n dX8_seed_19 rfl ?_
  refine w_iastore dX8_seed_20 (by first | assumption | exact gs_at | (rw [gs_ne (by omega)]; (first | assumption | exact gs_at | (rw [gs_ne (by omega)]; (first | assumption | exact gs_at | (rw [gs_ne (by omega)]; (first | assumption | exact gs_at | (rw [gs_ne (by omega)]; (first | assumption | exact gs_at))))))))) (by first | assumption | exact vp_in_nI (by omega) (by omega) | exact vp_in_nI (by assumption) (by omega)) ?_
  rw [nI_clamp (by omega)]
  refine w_iload_n dX8_seed_21 rfl ?_
  refine w_iret dX8_seed_22 rfl (Nat.le_of_ble_eq_true rfl) (Nat.le_of_ble_eq_true rfl) ?_
  exact ⟨_, rfl, rfl, _, by rw [gs_comm (a := V) (b := V + 1) (by omega)]; rfl, hR.seed, Keep.up (by decide) (by decide) (by decide)⟩
