/-! the model: crowd, worst -/
theorem ml_crowd {E : EV} {Q : OC → AH → Prop} {V : Nat} {th hi ac tp ba en at_ fa dp io hm_ we sh so : Int32} {mm : Nat → Int32} {T : ST} {sd : Int32} {G : AH} {x z : Int32} (hV : G.1 V = some (mO V th hi ac tp ba en at_ fa dp io hm_ we sh so)) (hm : G.1 (V + 1) = some (aI 750 mm)) (hR : MoR mm T sd) (hB : Bd T) (hQ : Wp E 59 0 0 kX8_crowd Q G (0, 0) 73 [.ref V, .int x, .int z, .int (nI (crwN T 6)), .int (nI 6)] []) : ∀ (k i : Nat), 6 - i < k → i ≤ 6 → Wp E 59 0 0 kX8_crowd Q G (0, 0) 45 [.ref V, .int x, .int z, .int (nI (crwN T i)), .int (nI i)] [] := by
  obtain ⟨r0, r3, r4, r5, r6, r7, r9, r11, r12, r14, r20, r26, rL⟩ := id hR
  obtain ⟨b0, b1, b2_, b3, b4, b5, b6, b7, b8, b9, b10, b11, b12, b13, b14, b15, b16, b17, b18, b19⟩ := id hB
  intro k
  induction k with
  | zero => intro i h; exact absurd h (by omega)
  | succ k ih =>
    intro i hk hi
    refine w_iload dX8_crowd_45 rfl ?_
    refine w_bipush (v := nI 6) dX8_crowd_47 (by decide) ?_
    refine w_icmp_ge (tgt := 73) dX8_crowd_49 (by decide) (fun c_49 => ?_) (fun c_49 => ?_)
    · try simp (disch := omega) only [nI_b2, Decidable.not_not, nI_ltI, nI_leI, nI_eq, ge_iff_le, gt_iff_lt, ne_eq, Nat.not_lt, Nat.not_le] at c_49
      have e : i = 6 := by omega
      subst e
      exact hQ
    · try simp (disch := omega) only [nI_b2, Decidable.not_not, nI_ltI, nI_leI, nI_eq, ge_iff_le, gt_iff_lt, ne_eq, Nat.not_lt, Nat.not_le] at c_49
      refine w_iload_n dX8_crowd_52 rfl ?_
      refine w_aload_n dX8_crowd_53 rfl ?_
      refine w_iload dX8_crowd_54 rfl ?_
      refine w_iconst (v := nI 1) dX8_crowd_56 (by decide) ?_
      refine wV2u dX8_crowd_57 lk_X8_283 rfl (by first | assumption | exact gs_at | (rw [gs_ne (by omega)]; (first | assumption | exact gs_at | (rw [gs_ne (by omega)]; (first | assumption | exact gs_at | (rw [gs_ne (by omega)]; (first | assumption | exact gs_at | (rw [gs_ne (by omega)]; (first | assumption | exact gs_at))))))))) rfl rfl (m_itemsOf (w := 1) hV hm hR hB (by decide) (fun j => by have := b2_ j; omega) (by omega)) (Nat.le_of_ble_eq_true rfl) (Nat.le_of_ble_eq_true rfl) (Nat.le_of_ble_eq_true rfl) (Nat.le_of_ble_eq_true rfl) ?_
      refine wS1u dX8_crowd_60 lk_X8_262 rfl (m_bits (Nat.lt_of_lt_of_le (bitN_lt _ _) (Nat.pow_le_pow_right (by decide) b0))) (Nat.le_of_ble_eq_true rfl) (Nat.le_of_ble_eq_true rfl) (Nat.le_of_ble_eq_true rfl) (Nat.le_of_ble_eq_true rfl) ?_
      refine wS2u dX8_crowd_63 lk_X8_219 rfl (m_greater (by have := crwN_le T i; omega) (by have := cntN_le (bitN (fun j => T 1 j = i) (T 12 0)) 12; omega)) (Nat.le_of_ble_eq_true rfl) (Nat.le_of_ble_eq_true rfl) (Nat.le_of_ble_eq_true rfl) (Nat.le_of_ble_eq_true rfl) ?_
      refine w_istore_3 dX8_crowd_66 rfl ?_
      first | refine w_iinc_4 dX8_crowd_67 (nI_inc _) rfl ?_ | refine w_iinc_4 dX8_crowd_67 rfl rfl ?_
      refine w_goto (tgt := 45) dX8_crowd_70 (by decide) ?_
      exact ih (i + 1) (by omega) (by omega)
theorem mr_m_crowd {E : EV} {Q : OC → AH → Prop} {V : Nat} {th hi ac tp ba en at_ fa dp io hm_ we sh so : Int32} {G : AH} {x : Int32} {j : Nat} (hV : G.1 V = some (mO V th hi ac tp ba en at_ fa dp io hm_ we sh so)) (hj : 0 < j ∧ j < 4) (hQ : Q (.inl (some (.int (nI 0)))) (gs G V (mO V (nI j) hi ac tp ba en at_ fa dp io hm_ we sh so))) : Wp E 59 0 0 kX8_crowd Q G (0, 0) 17 [.ref V, .int x, .float 0, .float 0, .float 0] [.int (nI j), .ref V] := by
  refine w_putf dX8_crowd_17 fl_X8_39 (by first | assumption | exact gs_at | (rw [gs_ne (by omega)]; (first | assumption | exact gs_at | (rw [gs_ne (by omega)]; (first | assumption | exact gs_at | (rw [gs_ne (by omega)]; (first | assumption | exact gs_at | (rw [gs_ne (by omega)]; (first | assumption | exact gs_at))))))))) (by simp) rfl rfl ?_
  refine w_aload_n dX8_crowd_20 rfl ?_
  refine w_getf dX8_crowd_21 fl_X8_39 (by first | assumption | exact gs_at | (rw [gs_ne (by omega)]; (first | assumption | exact gs_at | (rw [gs_ne (by omega)]; (first | assumption | exact gs_at | (rw [gs_ne (by omega)]; (first | assumption | exact gs_at | (rw [gs_ne (by omega)]; (first | assumption | exact gs_at))))))))) rfl ?_
  refine w_ifN_le (tgt := 29) dX8_crowd_24 (by decide) (fun c_24 => ?_) (fun c_24 => ?_)
  · try simp (disch := omega) only [nI_b2, Decidable.not_not, nI_ltI, nI_leI, nI_eq, ge_iff_le, gt_iff_lt, ne_eq, Nat.not_lt, Nat.not_le] at c_24
    exact absurd c_24 (by omega)
  · try simp (disch := omega) only [nI_b2, Decidable.not_not, nI_ltI, nI_leI, nI_eq, ge_iff_le, gt_iff_lt, ne_eq, Nat.not_lt, Nat.not_le] at c_24
    refine w_iconst (v := nI 0) dX8_crowd_27 (by decide) ?_
    refine w_iret dX8_crowd_28 rfl (Nat.le_of_ble_eq_true rfl) (Nat.le_of_ble_eq_true rfl) ?_
    exact hQ
theorem mk_m_crowd {E : EV} {Q : OC → AH → Prop} {V : Nat} {th hi ac tp ba en at_ fa dp io hm_ we sh so : Int32} {mm : Nat → Int32} {T : ST} {sd : Int32} {G : AH}  {j : Nat} {D : LD} (hj9 : j ≤ 400) (hAsk : AskC E D) (hD : WFD D) (hm0 : LwR mm D) (h3 : ∃ a : Nat → Int32, G.1 (V + 3) = some (aI 350 a)) (h6 : ∃ a : Nat → Int32, G.1 (V + 6) = some (aI 7 a)) (hV : G.1 V = some (mO V th hi ac tp ba en at_ fa dp io hm_ we sh so)) (hm : G.1 (V + 1) = some (aI 750 mm)) (hR : MoR mm T sd) (hB : Bd T)  (hQ : ∀ G1, AhP G V hi ac tp fa G1 → Q (.inl (some (.int (nI (crwN (adv D 0 T sd j).1 6))))) G1) : Wp E 59 0 0 kX8_crowd Q G (0, 0) 17 [.ref V, .int (nI j), .float 0, .float 0, .float 0] [.int (nI 0), .ref V] := by
  obtain ⟨r0, r3, r4, r5, r6, r7, r9, r11, r12, r14, r20, r26, rL⟩ := id hR
  obtain ⟨b0, b1, b2_, b3, b4, b5, b6, b7, b8, b9, b10, b11, b12, b13, b14, b15, b16, b17, b18, b19⟩ := id hB
  have hV2 : (gs G V (mO V (nI 0) hi ac tp ba en at_ fa dp io hm_ we sh so)).1 V = some (mO V (nI 0) hi ac tp ba en at_ fa dp io hm_ we sh so) := gs_at
  have hm2 : (gs G V (mO V (nI 0) hi ac tp ba en at_ fa dp io hm_ we sh so)).1 (V + 1) = some (aI 750 mm) := (gs_ne (by omega)).trans hm
  refine w_putf dX8_crowd_17 fl_X8_39 (by first | assumption | exact gs_at | (rw [gs_ne (by omega)]; (first | assumption | exact gs_at | (rw [gs_ne (by omega)]; (first | assumption | exact gs_at | (rw [gs_ne (by omega)]; (first | assumption | exact gs_at | (rw [gs_ne (by omega)]; (first | assumption | exact gs_at))))))))) (by simp) rfl rfl ?_
  refine w_aload_n dX8_crowd_20 rfl ?_
  refine w_getf dX8_crowd_21 fl_X8_39 (by first | assumption | exact gs_at | (rw [gs_ne (by omega)]; (first | assumption | exact gs_at | (rw [gs_ne (by omega)]; (first | assumption | exact gs_at | (rw [gs_ne (by omega)]; (first | assumption | exact gs_at | (rw [gs_ne (by omega)]; (first | assumption | exact gs_at))))))))) rfl ?_
  refine w_ifN_le (tgt := 29) dX8_crowd_24 (by decide) (fun c_24 => ?_) (fun c_24 => ?_)
  · try simp (disch := omega) only [nI_b2, Decidable.not_not, nI_ltI, nI_leI, nI_eq, ge_iff_le, gt_iff_lt, ne_eq, Nat.not_lt, Nat.not_le] at c_24
    refine w_aload_n dX8_crowd_29 rfl ?_
    refine wV0d dX8_crowd_30 lk_X8_145 rfl (by first | assumption | exact gs_at | (rw [gs_ne (by omega)]; (first | assumption | exact gs_at | (rw [gs_ne (by omega)]; (first | assumption | exact gs_at | (rw [gs_ne (by omega)]; (first | assumption | exact gs_at | (rw [gs_ne (by omega)]; (first | assumption | exact gs_at))))))))) rfl rfl (m_aside3 (mm := mm) rfl hm h3 h6) (Nat.le_of_ble_eq_true rfl) (Nat.le_of_ble_eq_true rfl) (Nat.le_of_ble_eq_true rfl) (Nat.le_of_ble_eq_true rfl) (fun G8 h_30 => ?_)
    obtain ⟨a, b, hG8, ha8⟩ := h_30
    subst hG8
    refine w_aload_n dX8_crowd_33 rfl ?_
    refine w_iload_n dX8_crowd_34 rfl ?_
    refine w_iconst (v := nI 0) dX8_crowd_35 (by decide) ?_
    refine wV2i dX8_crowd_36 lk_X8_298 rfl (by first | assumption | exact gs_at | (rw [gs_ne (by omega)]; (first | assumption | exact gs_at | (rw [gs_ne (by omega)]; (first | assumption | exact gs_at | (rw [gs_ne (by omega)]; (first | assumption | exact gs_at | (rw [gs_ne (by omega)]; (first | assumption | exact gs_at))))))))) rfl rfl (m_goes3 (a := a) (b := b) (nn := mm) rfl hAsk hD hm0 hB (st := 0) (by omega) hj9 hR) (Nat.le_of_ble_eq_true rfl) (Nat.le_of_ble_eq_true rfl) (Nat.le_of_ble_eq_true rfl) (Nat.le_of_ble_eq_true rfl) (fun r1 G1 h_36 => ?_)
    obtain ⟨hr1, b, n1, ba, en, at_, dp, io, hm_, we, sh, so, hG1, hR1, hK1⟩ := h_36
    subst hG1
    subst hr1
    refine w_istore_2 dX8_crowd_39 rfl ?_
    refine w_iconst (v := nI 0) dX8_crowd_40 (by decide) ?_
    refine w_istore_3 dX8_crowd_41 rfl ?_
    refine w_iconst (v := nI 0) dX8_crowd_42 (by decide) ?_
    refine w_istore_4 dX8_crowd_43 rfl ?_
    refine ml_crowd gs_at ((gs_ne (by omega)).trans gs_at) hR1 (hB.adv j) ?_ 7 0 (by omega) (by omega)
    refine w_aload_n dX8_crowd_73 rfl ?_
    refine wV0d dX8_crowd_74 lk_X8_155 rfl (by first | assumption | exact gs_at | (rw [gs_ne (by omega)]; (first | assumption | exact gs_at | (rw [gs_ne (by omega)]; (first | assumption | exact gs_at | (rw [gs_ne (by omega)]; (first | assumption | exact gs_at | (rw [gs_ne (by omega)]; (first | assumption | exact gs_at))))))))) rfl rfl (m_back3 (a := a) (b := b) (nn := n1) rfl hm ha8 hK1) (Nat.le_of_ble_eq_true rfl) (Nat.le_of_ble_eq_true rfl) (Nat.le_of_ble_eq_true rfl) (Nat.le_of_ble_eq_true rfl) (fun G9 h_74 => ?_)
    subst h_74
    refine w_iload_n dX8_crowd_77 rfl ?_
    refine w_iret dX8_crowd_78 rfl (Nat.le_of_ble_eq_true rfl) (Nat.le_of_ble_eq_true rfl) ?_
    exact hQ _ ⟨a, b, ba, en, at_, dp, io, hm_, we, sh, so, rfl⟩
  · try simp (disch := omega) only [nI_b2, Decidable.not_not, nI_ltI, nI_leI, nI_eq, ge_iff_le, gt_iff_lt, ne_eq, Nat.not_lt, Nat.not_le] at c_24
    exact absurd c_24 (by decide)
theorem m_crowd {E : EV} {V : Nat} {th hi ac tp ba en at_ fa dp io hm_ we sh so : Int32} {mm : Nat → Int32} {T : ST} {sd : Int32} {G : AH}  {x : Int32} (hV : G.1 V = some (mO V th hi ac tp ba en at_ fa dp io hm_ we sh so)) (hm : G.1 (V + 1) = some (aI 750 mm)) (hR : MoR mm T sd) (hB : Bd T)  {D : LD} (hAsk : AskC E D) (hD : WFD D) (hm0 : LwR mm D) (h3 : ∃ a : Nat → Int32, G.1 (V + 3) = some (aI 350 a)) (h6 : ∃ a : Nat → Int32, G.1 (V + 6) = some (aI 7 a)) : Ci E 59 kX8_crowd [.ref V, .int x] G (fun r G1 => r = (if xk1 (okN 0 (nI 400) x) = 0 then nI (crwN (adv D 0 T sd (ix x)).1 6) else nI 0) ∧ (xk1 (okN 0 (nI 400) x) = 0 → AhP G V hi ac tp fa G1) ∧ (¬ xk1 (okN 0 (nI 400) x) = 0 → G1 = (gs G V (mO V (nI (xk1 (okN 0 (nI 400) x))) hi ac tp ba en at_ fa dp io hm_ we sh so)))) := by
  refine Ct.intro rfl (by decide) [.ref V, .int x, .float 0, .float 0, .float 0] (by simp [Value.category]) (Nat.le_of_ble_eq_true rfl) rfl ?_
  obtain ⟨r0, r3, r4, r5, r6, r7, r9, r11, r12, r14, r20, r26, rL⟩ := id hR
  obtain ⟨b0, b1, b2_, b3, b4, b5, b6, b7, b8, b9, b10, b11, b12, b13, b14, b15, b16, b17, b18, b19⟩ := id hB
  refine w_aload_n dX8_crowd_0 rfl ?_
  refine w_iload_n dX8_crowd_1 rfl ?_
  refine w_iconst (v := nI 0) dX8_crowd_2 (by decide) ?_
  refine w_sipush (v := nI 400) dX8_crowd_3 (by decide) ?_
  refine wS3u dX8_crowd_6 lk_X8_42 rfl (m_isIn) (Nat.le_of_ble_eq_true rfl) (Nat.le_of_ble_eq_true rfl) (Nat.le_of_ble_eq_true rfl) (Nat.le_of_ble_eq_true rfl) ?_
  refine w_ifN_ne (tgt := 16) dX8_crowd_9 (by decide) (fun c_9 => ?_) (fun c_9 => ?_)
  · try simp (disch := omega) only [nI_b2, Decidable.not_not, nI_ltI, nI_leI, nI_eq, ge_iff_le, gt_iff_lt, ne_eq, Nat.not_lt, Nat.not_le] at c_9
    refine w_iconst (v := nI 0) dX8_crowd_16 (by decide) ?_
    first
      | (have kx : xk1 (okN 0 (nI 400) x) = 1 := (by rw [xk1, if_neg (show ¬ okN 0 (nI 400) x from c_9)]); exact mr_m_crowd hV (by decide) ⟨_, rfl, by rw [kx]; rfl, fun e => absurd (kx.symm.trans e) (by decide), fun _ => by rw [kx]⟩)
      | (have kx : xk1 (okN 0 (nI 400) x) = 0 := (by rw [xk1, if_pos (show okN 0 (nI 400) x from c_9)]); obtain ⟨j, hj8, hj9, ej⟩ := in_L (a := 0) (n := 400) (by omega) (by omega) c_9; subst ej; exact mk_m_crowd hj9 hAsk hD hm0 h3 h6 hV hm hR hB (fun G1 hG1 => ⟨_, rfl, by rw [kx, if_pos rfl, ix_nI (show j < 2 ^ 31 by omega)], fun _ => hG1, fun e => absurd kx e⟩))
  · try simp (disch := omega) only [nI_b2, Decidable.not_not, nI_ltI, nI_leI, nI_eq, ge_iff_le, gt_iff_lt, ne_eq, Nat.not_lt, Nat.not_le] at c_9
    refine w_iconst (v := nI 1) dX8_crowd_12 (by decide) ?_
    refine w_goto (tgt := 17) dX8_crowd_13 (by decide) ?_
    first
      | (have kx : xk1 (okN 0 (nI 400) x) = 1 := (by rw [xk1, if_neg (show ¬ okN 0 (nI 400) x from c_9)]); exact mr_m_crowd hV (by decide) ⟨_, rfl, by rw [kx]; rfl, fun e => absurd (kx.symm.trans e) (by decide), fun _ => by rw [kx]⟩)
      | (have kx : xk1 (okN 0 (nI 400) x) = 0 := (by rw [xk1, if_pos (show okN 0 (nI 400) x from c_9)]); obtain ⟨j, hj8, hj9, ej⟩ := in_L (a := 0) (n := 400) (by omega) (by omega) c_9; subst ej; exact mk_m_crowd hj9 hAsk hD hm0 h3 h6 hV hm hR hB (fun G1 hG1 => ⟨_, rfl, by rw [kx, if_pos rfl, ix_nI (show j < 2 ^ 31 by omega)], fun _ => hG1, fun e => absurd kx e⟩))
theorem wstV_n {T : ST} {i : Nat} (h : ¬ wstV T i = -1) : wstV T i = nI (wstN T i) ∧ wstN T i < i := by
  have h0 : ¬ i = 0 := fun e => h (by unfold wstV; rw [if_pos e])
  obtain ⟨k, rfl⟩ : ∃ k, i = k + 1 := ⟨i - 1, by omega⟩
  exact ⟨by unfold wstV; rw [if_neg h0], by have := wstN_lt T k; omega⟩
theorem wstV_1 {T : ST} {i : Nat} (hi : i < 2 ^ 31) (h : wstV T i = -1 ∨ T 2 (wstN T i) < T 2 i) : wstV T (i + 1) = nI i := by
  by_cases h0 : i = 0
  · subst h0; rfl
  · have hl : wstN T i < i := by
      obtain ⟨k, rfl⟩ : ∃ k, i = k + 1 := ⟨i - 1, by omega⟩
      have := wstN_lt T k; omega
    have h1 : T 2 (wstN T i) < T 2 i := by
      rcases h with h | h
      · exact absurd h (by unfold wstV; rw [if_neg h0]; exact nI_nm1 (by omega))
      · exact h
    unfold wstV
    rw [if_neg (show ¬ i + 1 = 0 by omega), wstN, if_neg h0, if_pos h1]
theorem wstV_2 {T : ST} {i : Nat} (h1 : ¬ wstV T i = -1) (h2 : T 2 i ≤ T 2 (wstN T i)) : wstV T (i + 1) = wstV T i := by
  have h0 : ¬ i = 0 := fun e => h1 (by unfold wstV; rw [if_pos e])
  unfold wstV
  rw [if_neg (show ¬ i + 1 = 0 by omega), wstN, if_neg h0, if_neg (show ¬ T 2 (wstN T i) < T 2 i by omega), if_neg h0]
theorem ml_worst {E : EV} {Q : OC → AH → Prop} {V : Nat} {th hi ac tp ba en at_ fa dp io hm_ we sh so : Int32} {mm : Nat → Int32} {T : ST} {sd : Int32} {G : AH} {x z : Int32} (hV : G.1 V = some (mO V th hi ac tp ba en at_ fa dp io hm_ we sh so)) (hm : G.1 (V + 1) = some (aI 750 mm)) (hR : MoR mm T sd) (hB : Bd T) (hQ : Wp E 59 0 0 kX8_worst Q G (0, 0) 86 [.ref V, .int x, .int z, .int (wstV T (T 12 0)), .int (nI (T 12 0))] []) : ∀ (k i : Nat), T 12 0 - i < k → i ≤ T 12 0 → Wp E 59 0 0 kX8_worst Q G (0, 0) 45 [.ref V, .int x, .int z, .int (wstV T i), .int (nI i)] [] := by
  obtain ⟨r0, r3, r4, r5, r6, r7, r9, r11, r12, r14, r20, r26, rL⟩ := id hR
  obtain ⟨b0, b1, b2_, b3, b4, b5, b6, b7, b8, b9, b10, b11, b12, b13, b14, b15, b16, b17, b18, b19⟩ := id hB
  intro k
  induction k with
  | zero => intro i h; exact absurd h (by omega)
  | succ k ih =>
    intro i hk hi
    refine w_iload dX8_worst_45 rfl ?_
    refine w_aload_n dX8_worst_47 rfl ?_
    refine w_getf dX8_worst_48 fl_X8_7 (by first | assumption | exact gs_at | (rw [gs_ne (by omega)]; (first | assumption | exact gs_at | (rw [gs_ne (by omega)]; (first | assumption | exact gs_at | (rw [gs_ne (by omega)]; (first | assumption | exact gs_at | (rw [gs_ne (by omega)]; (first | assumption | exact gs_at))))))))) rfl ?_
    refine w_iconst (v := nI 3) dX8_worst_51 (by decide) ?_
    refine w_iaload dX8_worst_52 (by first | assumption | exact gs_at | (rw [gs_ne (by omega)]; (first | assumption | exact gs_at | (rw [gs_ne (by omega)]; (first | assumption | exact gs_at | (rw [gs_ne (by omega)]; (first | assumption | exact gs_at | (rw [gs_ne (by omega)]; (first | assumption | exact gs_at))))))))) (by first | assumption | exact vp_in_nI (by omega) (by omega) | exact vp_in_nI (by assumption) (by omega)) ?_
    rw [nI_clamp (by omega)]
    rw [r3]
    refine w_icmp_ge (tgt := 86) dX8_worst_53 (by decide) (fun c_53 => ?_) (fun c_53 => ?_)
    · try simp (disch := omega) only [nI_b2, Decidable.not_not, nI_ltI, nI_leI, nI_eq, ge_iff_le, gt_iff_lt, ne_eq, Nat.not_lt, Nat.not_le] at c_53
      have e : i = T 12 0 := by omega
      rw [e]
      exact hQ
    · try simp (disch := omega) only [nI_b2, Decidable.not_not, nI_ltI, nI_leI, nI_eq, ge_iff_le, gt_iff_lt, ne_eq, Nat.not_lt, Nat.not_le] at c_53
      refine w_iload_n dX8_worst_56 rfl ?_
      refine w_iconst (v := (-1)) dX8_worst_57 (by decide) ?_
      refine w_icmp_eq (tgt := 77) dX8_worst_58 (by decide) (fun c_58 => ?_) (fun c_58 => ?_)
      · try simp (disch := omega) only [nI_b2, Decidable.not_not, nI_ltI, nI_leI, nI_eq, ge_iff_le, gt_iff_lt, ne_eq, Nat.not_lt, Nat.not_le] at c_58
        refine w_iload dX8_worst_77 rfl ?_
        refine w_istore_3 dX8_worst_79 rfl ?_
        first | refine w_iinc_4 dX8_worst_80 (nI_inc _) rfl ?_ | refine w_iinc_4 dX8_worst_80 rfl rfl ?_
        refine w_goto (tgt := 45) dX8_worst_83 (by decide) ?_
        have hN := ih (i + 1) (by omega) (by omega)
        first
          | (rw [wstV_1 (by omega) (Or.inl c_58)] at hN; exact hN)
          | (rw [wstV_1 (by omega) (Or.inr c_74)] at hN; exact hN)
          | (rw [wstV_2 c_58 c_74, e9] at hN; exact hN)
      · try simp (disch := omega) only [nI_b2, Decidable.not_not, nI_ltI, nI_leI, nI_eq, ge_iff_le, gt_iff_lt, ne_eq, Nat.not_lt, Nat.not_le] at c_58
        obtain ⟨e9, l9⟩ := wstV_n c_58
        have q1 := b3 i; have q2 := b3 (wstN T i)
        rw [e9]
        refine w_aload_n dX8_worst_61 rfl ?_
        refine w_iload dX8_worst_62 rfl ?_
        refine w_iconst (v := nI 2) dX8_worst_64 (by decide) ?_
        refine wV2u dX8_worst_65 lk_X8_46 rfl (by first | assumption | exact gs_at | (rw [gs_ne (by omega)]; (first | assumption | exact gs_at | (rw [gs_ne (by omega)]; (first | assumption | exact gs_at | (rw [gs_ne (by omega)]; (first | assumption | exact gs_at | (rw [gs_ne (by omega)]; (first | assumption | exact gs_at))))))))) rfl rfl (m_of (w := 2) hV hm hR hB (by omega) (by decide)) (Nat.le_of_ble_eq_true rfl) (Nat.le_of_ble_eq_true rfl) (Nat.le_of_ble_eq_true rfl) (Nat.le_of_ble_eq_true rfl) ?_
        refine w_aload_n dX8_worst_68 rfl ?_
        refine w_iload_n dX8_worst_69 rfl ?_
        refine w_iconst (v := nI 2) dX8_worst_70 (by decide) ?_
        refine wV2u dX8_worst_71 lk_X8_46 rfl (by first | assumption | exact gs_at | (rw [gs_ne (by omega)]; (first | assumption | exact gs_at | (rw [gs_ne (by omega)]; (first | assumption | exact gs_at | (rw [gs_ne (by omega)]; (first | assumption | exact gs_at | (rw [gs_ne (by omega)]; (first | assumption | exact gs_at))))))))) rfl rfl (m_of (i := wstN T i) (w := 2) hV hm hR hB (by omega) (by decide)) (Nat.le_of_ble_eq_true rfl) (Nat.le_of_ble_eq_true rfl) (Nat.le_of_ble_eq_true rfl) (Nat.le_of_ble_eq_true rfl) ?_
        refine w_icmp_le (tgt := 80) dX8_worst_74 (by decide) (fun c_74 => ?_) (fun c_74 => ?_)
        · try simp (disch := omega) only [nI_b2, Decidable.not_not, nI_ltI, nI_leI, nI_eq, ge_iff_le, gt_iff_lt, ne_eq, Nat.not_lt, Nat.not_le] at c_74
          first | refine w_iinc_4 dX8_worst_80 (nI_inc _) rfl ?_ | refine w_iinc_4 dX8_worst_80 rfl rfl ?_
          refine w_goto (tgt := 45) dX8_worst_83 (by decide) ?_
          have hN := ih (i + 1) (by omega) (by omega)
          first
            | (rw [wstV_1 (by omega) (Or.inl c_58)] at hN; exact hN)
            | (rw [wstV_1 (by omega) (Or.inr c_74)] at hN; exact hN)
            | (rw [wstV_2 c_58 c_74, e9] at hN; exact hN)
        · try simp (disch := omega) only [nI_b2, Decidable.not_not, nI_ltI, nI_leI, nI_eq, ge_iff_le, gt_iff_lt, ne_eq, Nat.not_lt, Nat.not_le] at c_74
          refine w_iload dX8_worst_77 rfl ?_
          refine w_istore_3 dX8_worst_79 rfl ?_
          first | refine w_iinc_4 dX8_worst_80 (nI_inc _) rfl ?_ | refine w_iinc_4 dX8_worst_80 rfl rfl ?_
          refine w_goto (tgt := 45) dX8_worst_83 (by decide) ?_
          have hN := ih (i + 1) (by omega) (by omega)
          first
            | (rw [wstV_1 (by omega) (Or.inl c_58)] at hN; exact hN)
            | (rw [wstV_1 (by omega) (Or.inr c_74)] at hN; exact hN)
            | (rw [wstV_2 c_58 c_74, e9] at hN; exact hN)
theorem mr_m_worst {E : EV} {Q : OC → AH → Prop} {V : Nat} {th hi ac tp ba en at_ fa dp io hm_ we sh so : Int32} {G : AH} {x : Int32} {j : Nat} (hV : G.1 V = some (mO V th hi ac tp ba en at_ fa dp io hm_ we sh so)) (hj : 0 < j ∧ j < 4) (hQ : Q (.inl (some (.int (nI 0)))) (gs G V (mO V (nI j) hi ac tp ba en at_ fa dp io hm_ we sh so))) : Wp E 59 0 0 kX8_worst Q G (0, 0) 17 [.ref V, .int x, .float 0, .float 0, .float 0] [.int (nI j), .ref V] := by
  refine w_putf dX8_worst_17 fl_X8_39 (by first | assumption | exact gs_at | (rw [gs_ne (by omega)]; (first | assumption | exact gs_at | (rw [gs_ne (by omega)]; (first | assumption | exact gs_at | (rw [gs_ne (by omega)]; (first | assumption | exact gs_at | (rw [gs_ne (by omega)]; (first | assumption | exact gs_at))))))))) (by simp) rfl rfl ?_
  refine w_aload_n dX8_worst_20 rfl ?_
  refine w_getf dX8_worst_21 fl_X8_39 (by first | assumption | exact gs_at | (rw [gs_ne (by omega)]; (first | assumption | exact gs_at | (rw [gs_ne (by omega)]; (first | assumption | exact gs_at | (rw [gs_ne (by omega)]; (first | assumption | exact gs_at | (rw [gs_ne (by omega)]; (first | assumption | exact gs_at))))))))) rfl ?_
  refine w_ifN_le (tgt := 29) dX8_worst_24 (by decide) (fun c_24 => ?_) (fun c_24 => ?_)
  · try simp (disch := omega) only [nI_b2, Decidable.not_not, nI_ltI, nI_leI, nI_eq, ge_iff_le, gt_iff_lt, ne_eq, Nat.not_lt, Nat.not_le] at c_24
    exact absurd c_24 (by omega)
  · try simp (disch := omega) only [nI_b2, Decidable.not_not, nI_ltI, nI_leI, nI_eq, ge_iff_le, gt_iff_lt, ne_eq, Nat.not_lt, Nat.not_le] at c_24
    refine w_iconst (v := nI 0) dX8_worst_27 (by decide) ?_
    refine w_iret dX8_worst_28 rfl (Nat.le_of_ble_eq_true rfl) (Nat.le_of_ble_eq_true rfl) ?_
    exact hQ
theorem mk_m_worst {E : EV} {Q : OC → AH → Prop} {V : Nat} {th hi ac tp ba en at_ fa dp io hm_ we sh so : Int32} {mm : Nat → Int32} {T : ST} {sd : Int32} {G : AH}  {j : Nat} {D : LD} (hj9 : j ≤ 400) (hAsk : AskC E D) (hD : WFD D) (hm0 : LwR mm D) (h3 : ∃ a : Nat → Int32, G.1 (V + 3) = some (aI 350 a)) (h6 : ∃ a : Nat → Int32, G.1 (V + 6) = some (aI 7 a)) (hV : G.1 V = some (mO V th hi ac tp ba en at_ fa dp io hm_ we sh so)) (hm : G.1 (V + 1) = some (aI 750 mm)) (hR : MoR mm T sd) (hB : Bd T)  (hQ : ∀ G1, AhP G V hi ac tp fa G1 → Q (.inl (some (.int ((wstV (adv D 0 T sd j).1 (T 12 0)))))) G1) : Wp E 59 0 0 kX8_worst Q G (0, 0) 17 [.ref V, .int (nI j), .float 0, .float 0, .float 0] [.int (nI 0), .ref V] := by
  obtain ⟨r0, r3, r4, r5, r6, r7, r9, r11, r12, r14, r20, r26, rL⟩ := id hR
  obtain ⟨b0, b1, b2_, b3, b4, b5, b6, b7, b8, b9, b10, b11, b12, b13, b14, b15, b16, b17, b18, b19⟩ := id hB
  have hV2 : (gs G V (mO V (nI 0) hi ac tp ba en at_ fa dp io hm_ we sh so)).1 V = some (mO V (nI 0) hi ac tp ba en at_ fa dp io hm_ we sh so) := gs_at
  have hm2 : (gs G V (mO V (nI 0) hi ac tp ba en at_ fa dp io hm_ we sh so)).1 (V + 1) = some (aI 750 mm) := (gs_ne (by omega)).trans hm
  refine w_putf dX8_worst_17 fl_X8_39 (by first | assumption | exact gs_at | (rw [gs_ne (by omega)]; (first | assumption | exact gs_at | (rw [gs_ne (by omega)]; (first | assumption | exact gs_at | (rw [gs_ne (by omega)]; (first | assumption | exact gs_at | (rw [gs_ne (by omega)]; (first | assumption | exact gs_at))))))))) (by simp) rfl rfl ?_
  refine w_aload_n dX8_worst_20 rfl ?_
  refine w_getf dX8_worst_21 fl_X8_39 (by first | assumption | exact gs_at | (rw [gs_ne (by omega)]; (first | assumption | exact gs_at | (rw [gs_ne (by omega)]; (first | assumption | exact gs_at | (rw [gs_ne (by omega)]; (first | assumption | exact gs_at | (rw [gs_ne (by omega)]; (first | assumption | exact gs_at))))))))) rfl ?_
  refine w_ifN_le (tgt := 29) dX8_worst_24 (by decide) (fun c_24 => ?_) (fun c_24 => ?_)
  · try simp (disch := omega) only [nI_b2, Decidable.not_not, nI_ltI, nI_leI, nI_eq, ge_iff_le, gt_iff_lt, ne_eq, Nat.not_lt, Nat.not_le] at c_24
    refine w_aload_n dX8_worst_29 rfl ?_
    refine wV0d dX8_worst_30 lk_X8_145 rfl (by first | assumption | exact gs_at | (rw [gs_ne (by omega)]; (first | assumption | exact gs_at | (rw [gs_ne (by omega)]; (first | assumption | exact gs_at | (rw [gs_ne (by omega)]; (first | assumption | exact gs_at | (rw [gs_ne (by omega)]; (first | assumption | exact gs_at))))))))) rfl rfl (m_aside3 (mm := mm) rfl hm h3 h6) (Nat.le_of_ble_eq_true rfl) (Nat.le_of_ble_eq_true rfl) (Nat.le_of_ble_eq_true rfl) (Nat.le_of_ble_eq_true rfl) (fun G8 h_30 => ?_)
    obtain ⟨a, b, hG8, ha8⟩ := h_30
    subst hG8
    refine w_aload_n dX8_worst_33 rfl ?_
    refine w_iload_n dX8_worst_34 rfl ?_
    refine w_iconst (v := nI 0) dX8_worst_35 (by decide) ?_
    refine wV2i dX8_worst_36 lk_X8_298 rfl (by first | assumption | exact gs_at | (rw [gs_ne (by omega)]; (first | assumption | exact gs_at | (rw [gs_ne (by omega)]; (first | assumption | exact gs_at | (rw [gs_ne (by omega)]; (first | assumption | exact gs_at | (rw [gs_ne (by omega)]; (first | assumption | exact gs_at))))))))) rfl rfl (m_goes3 (a := a) (b := b) (nn := mm) rfl hAsk hD hm0 hB (st := 0) (by omega) hj9 hR) (Nat.le_of_ble_eq_true rfl) (Nat.le_of_ble_eq_true rfl) (Nat.le_of_ble_eq_true rfl) (Nat.le_of_ble_eq_true rfl) (fun r1 G1 h_36 => ?_)
    obtain ⟨hr1, b, n1, ba, en, at_, dp, io, hm_, we, sh, so, hG1, hR1, hK1⟩ := h_36
    subst hG1
    subst hr1
    refine w_istore_2 dX8_worst_39 rfl ?_
    refine w_iconst (v := (-1)) dX8_worst_40 (by decide) ?_
    refine w_istore_3 dX8_worst_41 rfl ?_
    refine w_iconst (v := nI 0) dX8_worst_42 (by decide) ?_
    refine w_istore_4 dX8_worst_43 rfl ?_
    refine ml_worst gs_at ((gs_ne (by omega)).trans gs_at) hR1 (hB.adv j) ?_ ((adv D 0 T sd j).1 12 0 + 1) 0 (by omega) (by omega)
    rw [adv_0]
    refine w_aload_n dX8_worst_86 rfl ?_
    refine wV0d dX8_worst_87 lk_X8_155 rfl (by first | assumption | exact gs_at | (rw [gs_ne (by omega)]; (first | assumption | exact gs_at | (rw [gs_ne (by omega)]; (first | assumption | exact gs_at | (rw [gs_ne (by omega)]; (first | assumption | exact gs_at | (rw [gs_ne (by omega)]; (first | assumption | exact gs_at))))))))) rfl rfl (m_back3 (a := a) (b := b) (nn := n1) rfl hm ha8 hK1) (Nat.le_of_ble_eq_true rfl) (Nat.le_of_ble_eq_true rfl) (Nat.le_of_ble_eq_true rfl) (Nat.le_of_ble_eq_true rfl) (fun G9 h_87 => ?_)
    subst h_87
    refine w_iload_n dX8_worst_90 rfl ?_
    refine w_iret dX8_worst_91 rfl (Nat.le_of_ble_eq_true rfl) (Nat.le_of_ble_eq_true rfl) ?_
    exact hQ _ ⟨a, b, ba, en, at_, dp, io, hm_, we, sh, so, rfl⟩
  · try simp (disch := omega) only [nI_b2, Decidable.not_not, nI_ltI, nI_leI, nI_eq, ge_iff_le, gt_iff_lt, ne_eq, Nat.not_lt, Nat.not_le] at c_24
    exact absurd c_24 (by decide)
theorem m_worst {E : EV} {V : Nat} {th hi ac tp ba en at_ fa dp io hm_ we sh so : Int32} {mm : Nat → Int32} {T : ST} {sd : Int32} {G : AH}  {x : Int32} (hV : G.1 V = some (mO V th hi ac tp ba en at_ fa dp io hm_ we sh so)) (hm : G.1 (V + 1) = some (aI 750 mm)) (hR : MoR mm T sd) (hB : Bd T)  {D : LD} (hAsk : AskC E D) (hD : WFD D) (hm0 : LwR mm D) (h3 : ∃ a : Nat → Int32, G.1 (V + 3) = some (aI 350 a)) (h6 : ∃ a : Nat → Int32, G.1 (V + 6) = some (aI 7 a)) : Ci E 59 kX8_worst [.ref V, .int x] G (fun r G1 => r = (if xk1 (okN 0 (nI 400) x) = 0 then (wstV (adv D 0 T sd (ix x)).1 (T 12 0)) else nI 0) ∧ (xk1 (okN 0 (nI 400) x) = 0 → AhP G V hi ac tp fa G1) ∧ (¬ xk1 (okN 0 (nI 400) x) = 0 → G1 = (gs G V (mO V (nI (xk1 (okN 0 (nI 400) x))) hi ac tp ba en at_ fa dp io hm_ we sh so)))) := by
  refine Ct.intro rfl (by decide) [.ref V, .int x, .float 0, .float 0, .float 0] (by simp [Value.category]) (Nat.le_of_ble_eq_true rfl) rfl ?_
  obtain ⟨r0, r3, r4, r5, r6, r7, r9, r11, r12, r14, r20, r26, rL⟩ := id hR
  obtain ⟨b0, b1, b2_, b3, b4, b5, b6, b7, b8, b9, b10, b11, b12, b13, b14, b15, b16, b17, b18, b19⟩ := id hB
  refine w_aload_n dX8_worst_0 rfl ?_
  refine w_iload_n dX8_worst_1 rfl ?_
  refine w_iconst (v := nI 0) dX8_worst_2 (by decide) ?_
  refine w_sipush (v := nI 400) dX8_worst_3 (by decide) ?_
  refine wS3u dX8_worst_6 lk_X8_42 rfl (m_isIn) (Nat.le_of_ble_eq_true rfl) (Nat.le_of_ble_eq_true rfl) (Nat.le_of_ble_eq_true rfl) (Nat.le_of_ble_eq_true rfl) ?_
  refine w_ifN_ne (tgt := 16) dX8_worst_9 (by decide) (fun c_9 => ?_) (fun c_9 => ?_)
  · try simp (disch := omega) only [nI_b2, Decidable.not_not, nI_ltI, nI_leI, nI_eq, ge_iff_le, gt_iff_lt, ne_eq, Nat.not_lt, Nat.not_le] at c_9
    refine w_iconst (v := nI 0) dX8_worst_16 (by decide) ?_
    first
      | (have kx : xk1 (okN 0 (nI 400) x) = 1 := (by rw [xk1, if_neg (show ¬ okN 0 (nI 400) x from c_9)]); exact mr_m_worst hV (by decide) ⟨_, rfl, by rw [kx]; rfl, fun e => absurd (kx.symm.trans e) (by decide), fun _ => by rw [kx]⟩)
      | (have kx : xk1 (okN 0 (nI 400) x) = 0 := (by rw [xk1, if_pos (show okN 0 (nI 400) x from c_9)]); obtain ⟨j, hj8, hj9, ej⟩ := in_L (a := 0) (n := 400) (by omega) (by omega) c_9; subst ej; exact mk_m_worst hj9 hAsk hD hm0 h3 h6 hV hm hR hB (fun G1 hG1 => ⟨_, rfl, by rw [kx, if_pos rfl, ix_nI (show j < 2 ^ 31 by omega)], fun _ => hG1, fun e => absurd kx e⟩))
  · try simp (disch := omega) only [nI_b2, Decidable.not_not, nI_ltI, nI_leI, nI_eq, ge_iff_le, gt_iff_lt, ne_eq, Nat.not_lt, Nat.not_le] at c_9
    refine w_iconst (v := nI 1) dX8_worst_12 (by decide) ?_
    refine w_goto (tgt := 17) dX8_worst_13 (by decide) ?_
    first
      | (have kx : xk1 (okN 0 (nI 400) x) = 1 := (by rw [xk1, if_neg (show ¬ okN 0 (nI 400) x from c_9)]); exact mr_m_worst hV (by decide) ⟨_, rfl, by rw [kx]; rfl, fun e => absurd (kx.symm.trans e) (by decide), fun _ => by rw [kx]⟩)
      | (have kx : xk1 (okN 0 (nI 400) x) = 0 := (by rw [xk1, if_pos (show okN 0 (nI 400) x from c_9)]); obtain ⟨j, hj8, hj9, ej⟩ := in_L (a := 0) (n := 400) (by omega) (by omega) c_9; subst ej; exact mk_m_worst hj9 hAsk hD hm0 h3 h6 hV hm hR hB (fun G1 hG1 => ⟨_, rfl, by rw [kx, if_pos rfl, ix_nI (show j < 2 ^ 31 by omega)], fun _ => hG1, fun e => absurd kx e⟩))
