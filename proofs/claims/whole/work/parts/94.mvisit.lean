/-! the model: visits -/
def vsP (D : LD) (T : ST) (sd : Int32) (a : Nat) : Nat → Nat | 0 => 0 | n + 1 => visN D T sd a n
theorem vsP_s (D : LD) (T : ST) (sd : Int32) (a : Nat) : ∀ n, vsP D T sd a n ||| 1 * 2 ^ (adv D 0 T sd n).1 1 a = vsP D T sd a (n + 1)
  | 0 => by show 0 ||| 1 * 2 ^ T 1 a = 1 * 2 ^ T 1 a; exact Nat.zero_or _
  | n + 1 => rfl
theorem vsP_lt {D : LD} {T : ST} {sd : Int32} (hB : Bd T) (a : Nat) : ∀ n, vsP D T sd a n < 64
  | 0 => by show 0 < 64; decide
  | n + 1 => by
    rw [← vsP_s]
    have h1 := vsP_lt (D := D) (sd := sd) hB a n
    have h2 := (hB.adv (D := D) (st := 0) (sd := sd) n).2.2.1 a
    exact Nat.or_lt_two_pow (n := 6) h1 (by rw [Nat.one_mul]; exact Nat.pow_lt_pow_right (by decide) h2)
theorem ml_visits {E : EV} {Q : OC → AH → Prop} {V : Nat} {th hi ac tp fa : Int32} {mm a : Nat → Int32} {T : ST} {sd : Int32} {G : AH} {D : LD} {i y : Nat} (hAsk : AskC E D) (hD : WFD D) (hm0 : LwR mm D) (hB : Bd T) (hm : G.1 (V + 1) = some (aI 750 mm)) (ha8 : ∀ j, j < 350 → a j = mm j) (hi9 : i < 12) (hy9 : y ≤ 60) (hQ : ∀ (b : Nat → Int32) (ba en at_ dp io hm_ we sh so : Int32), Q (.inl (some (.int (nI (visN D T sd i y))))) (gs (gs (gs G (V + 3) (aI 350 (a))) (V + 6) (aI 7 (b))) V (mO V th hi ac tp ba en at_ fa dp io hm_ we sh so))) : ∀ (k n : Nat) (b nn : Nat → Int32) (ba en at_ dp io hm_ we sh so : Int32) (z : Value), y + 1 - n < k → n ≤ y + 1 → MoR nn (adv D 0 T sd n).1 (adv D 0 T sd n).2 → Keep mm nn → Wp E 59 0 0 kX8_visits Q (gs (gs (gs (gs G (V + 3) (aI 350 (a))) (V + 6) (aI 7 (b))) (V + 1) (aI 750 (nn))) V (mO V th hi ac tp ba en at_ fa dp io hm_ we sh so)) (0, 0) 49 [.ref V, .int (nI i), .int (nI y), .int (nI (vsP D T sd i n)), .int (nI n), z] [] := by
  intro k
  induction k with
  | zero => intro n b nn ba en at_ dp io hm_ we sh so z h; exact absurd h (by omega)
  | succ k ih =>
    intro n b nn ba en at_ dp io hm_ we sh so z hk hn9 hRn hKn
    have hBn : Bd (adv D 0 T sd n).1 := hB.adv _
    have q1 := hBn.2.2.1 i
    have q2 := vsP_lt (D := D) (sd := sd) hB i n
    have hs := vsP_s D T sd i n
    refine w_iload dX8_visits_49 rfl ?_
    refine w_iload_n dX8_visits_51 rfl ?_
    refine w_icmp_gt (tgt := 80) dX8_visits_52 (by decide) (fun c_52 => ?_) (fun c_52 => ?_)
    · try simp (disch := omega) only [nI_b2, Decidable.not_not, nI_ltI, nI_leI, nI_eq, ge_iff_le, gt_iff_lt, ne_eq, Nat.not_lt, Nat.not_le] at c_52
      refine w_aload_n dX8_visits_80 rfl ?_
      refine wV0d dX8_visits_81 lk_X8_155 rfl (by first | assumption | exact gs_at | (rw [gs_ne (by omega)]; (first | assumption | exact gs_at | (rw [gs_ne (by omega)]; (first | assumption | exact gs_at | (rw [gs_ne (by omega)]; (first | assumption | exact gs_at | (rw [gs_ne (by omega)]; (first | assumption | exact gs_at))))))))) rfl rfl (m_back3 (a := a) (b := b) (nn := nn) rfl hm ha8 hKn) (Nat.le_of_ble_eq_true rfl) (Nat.le_of_ble_eq_true rfl) (Nat.le_of_ble_eq_true rfl) (Nat.le_of_ble_eq_true rfl) (fun G9 h_81 => ?_)
      subst h_81
      refine w_iload_n dX8_visits_84 rfl ?_
      refine w_iret dX8_visits_85 rfl (Nat.le_of_ble_eq_true rfl) (Nat.le_of_ble_eq_true rfl) ?_
      have e : n = y + 1 := by omega
      subst e
      exact hQ b ba en at_ dp io hm_ we sh so
    · try simp (disch := omega) only [nI_b2, Decidable.not_not, nI_ltI, nI_leI, nI_eq, ge_iff_le, gt_iff_lt, ne_eq, Nat.not_lt, Nat.not_le] at c_52
      refine w_iload_n dX8_visits_55 rfl ?_
      refine w_iconst (v := nI 1) dX8_visits_56 (by decide) ?_
      refine w_aload_n dX8_visits_57 rfl ?_
      refine w_iload_n dX8_visits_58 rfl ?_
      refine w_iconst (v := nI 1) dX8_visits_59 (by decide) ?_
      refine wV2u dX8_visits_60 lk_X8_46 rfl (by first | assumption | exact gs_at | (rw [gs_ne (by omega)]; (first | assumption | exact gs_at | (rw [gs_ne (by omega)]; (first | assumption | exact gs_at | (rw [gs_ne (by omega)]; (first | assumption | exact gs_at | (rw [gs_ne (by omega)]; (first | assumption | exact gs_at))))))))) rfl rfl (m_of (w := 1) gs_at ((gs_ne (by omega)).trans gs_at) hRn hBn (by omega) (by decide)) (Nat.le_of_ble_eq_true rfl) (Nat.le_of_ble_eq_true rfl) (Nat.le_of_ble_eq_true rfl) (Nat.le_of_ble_eq_true rfl) ?_
      refine w_ishl dX8_visits_63 ?_
      rw [nI_shl (by omega) (Nat.lt_of_le_of_lt (Nat.mul_le_mul_left 1 (Nat.pow_le_pow_right (by decide) (Nat.le_of_lt q1))) (by decide))]
      first | refine w_iorN dX8_visits_64 ?_ | refine w_ior dX8_visits_64 ?_
      refine w_istore_3 dX8_visits_65 rfl ?_
      refine w_aload_n dX8_visits_66 rfl ?_
      refine w_iconst (v := nI 1) dX8_visits_67 (by decide) ?_
      refine w_iconst (v := nI 0) dX8_visits_68 (by decide) ?_
      refine wV2i dX8_visits_69 lk_X8_298 rfl (by first | assumption | exact gs_at | (rw [gs_ne (by omega)]; (first | assumption | exact gs_at | (rw [gs_ne (by omega)]; (first | assumption | exact gs_at | (rw [gs_ne (by omega)]; (first | assumption | exact gs_at | (rw [gs_ne (by omega)]; (first | assumption | exact gs_at))))))))) rfl rfl (m_goes3 (a := a) (b := b) (nn := nn) rfl hAsk hD (hm0.keep hKn) hBn (st := 0) (by omega) (by decide) hRn) (Nat.le_of_ble_eq_true rfl) (Nat.le_of_ble_eq_true rfl) (Nat.le_of_ble_eq_true rfl) (Nat.le_of_ble_eq_true rfl) (fun r1 G1 h_69 => ?_)
      obtain ⟨hr1, b, n1, ba, en, at_, dp, io, hm_, we, sh, so, hG1, hR1, hK1⟩ := h_69
      subst hG1
      subst hr1
      refine w_istore_5 dX8_visits_72 rfl ?_
      first | refine w_iinc_4 dX8_visits_74 (nI_inc _) rfl ?_ | refine w_iinc_4 dX8_visits_74 rfl rfl ?_
      refine w_goto (tgt := 49) dX8_visits_77 (by decide) ?_
      rw [hs]
      exact ih (n + 1) b n1 _ _ _ _ _ _ _ _ _ _ (by omega) (by omega) hR1 (hKn.tr hK1)
theorem mr_m_visits {E : EV} {Q : OC → AH → Prop} {V : Nat} {th hi ac tp ba en at_ fa dp io hm_ we sh so : Int32} {G : AH} {x y : Int32} {j : Nat} (hV : G.1 V = some (mO V th hi ac tp ba en at_ fa dp io hm_ we sh so)) (hj : 0 < j ∧ j < 4) (hQ : Q (.inl (some (.int (nI 0)))) (gs G V (mO V (nI j) hi ac tp ba en at_ fa dp io hm_ we sh so))) : Wp E 59 0 0 kX8_visits Q G (0, 0) 28 [.ref V, .int x, .int y, .float 0, .float 0, .float 0] [.int (nI j), .ref V] := by
  refine w_putf dX8_visits_28 fl_X8_39 (by first | assumption | exact gs_at | (rw [gs_ne (by omega)]; (first | assumption | exact gs_at | (rw [gs_ne (by omega)]; (first | assumption | exact gs_at | (rw [gs_ne (by omega)]; (first | assumption | exact gs_at | (rw [gs_ne (by omega)]; (first | assumption | exact gs_at))))))))) (by simp) rfl rfl ?_
  refine w_aload_n dX8_visits_31 rfl ?_
  refine w_getf dX8_visits_32 fl_X8_39 (by first | assumption | exact gs_at | (rw [gs_ne (by omega)]; (first | assumption | exact gs_at | (rw [gs_ne (by omega)]; (first | assumption | exact gs_at | (rw [gs_ne (by omega)]; (first | assumption | exact gs_at | (rw [gs_ne (by omega)]; (first | assumption | exact gs_at))))))))) rfl ?_
  refine w_ifN_le (tgt := 40) dX8_visits_35 (by decide) (fun c_35 => ?_) (fun c_35 => ?_)
  · try simp (disch := omega) only [nI_b2, Decidable.not_not, nI_ltI, nI_leI, nI_eq, ge_iff_le, gt_iff_lt, ne_eq, Nat.not_lt, Nat.not_le] at c_35
    exact absurd c_35 (by omega)
  · try simp (disch := omega) only [nI_b2, Decidable.not_not, nI_ltI, nI_leI, nI_eq, ge_iff_le, gt_iff_lt, ne_eq, Nat.not_lt, Nat.not_le] at c_35
    refine w_iconst (v := nI 0) dX8_visits_38 (by decide) ?_
    refine w_iret dX8_visits_39 rfl (Nat.le_of_ble_eq_true rfl) (Nat.le_of_ble_eq_true rfl) ?_
    exact hQ
theorem mk_m_visits {E : EV} {Q : OC → AH → Prop} {V : Nat} {th hi ac tp ba en at_ fa dp io hm_ we sh so : Int32} {mm : Nat → Int32} {T : ST} {sd : Int32} {G : AH}  {i j : Nat} {D : LD} (hi9 : i < T 12 0) (hj9 : j ≤ 60) (hAsk : AskC E D) (hD : WFD D) (hm0 : LwR mm D) (h3 : ∃ a : Nat → Int32, G.1 (V + 3) = some (aI 350 a)) (h6 : ∃ a : Nat → Int32, G.1 (V + 6) = some (aI 7 a)) (hV : G.1 V = some (mO V th hi ac tp ba en at_ fa dp io hm_ we sh so)) (hm : G.1 (V + 1) = some (aI 750 mm)) (hR : MoR mm T sd) (hB : Bd T)  (hQ : ∀ G1, AhP G V hi ac tp fa G1 → Q (.inl (some (.int (nI (visN D T sd i j))))) G1) : Wp E 59 0 0 kX8_visits Q G (0, 0) 28 [.ref V, .int (nI i), .int (nI j), .float 0, .float 0, .float 0] [.int (nI 0), .ref V] := by
  obtain ⟨r0, r3, r4, r5, r6, r7, r9, r11, r12, r14, r20, r26, rL⟩ := id hR
  obtain ⟨b0, b1, b2_, b3, b4, b5, b6, b7, b8, b9, b10, b11, b12, b13, b14, b15, b16, b17, b18, b19⟩ := id hB
  have hV2 : (gs G V (mO V (nI 0) hi ac tp ba en at_ fa dp io hm_ we sh so)).1 V = some (mO V (nI 0) hi ac tp ba en at_ fa dp io hm_ we sh so) := gs_at
  have hm2 : (gs G V (mO V (nI 0) hi ac tp ba en at_ fa dp io hm_ we sh so)).1 (V + 1) = some (aI 750 mm) := (gs_ne (by omega)).trans hm
  refine w_putf dX8_visits_28 fl_X8_39 (by first | assumption | exact gs_at | (rw [gs_ne (by omega)]; (first | assumption | exact gs_at | (rw [gs_ne (by omega)]; (first | assumption | exact gs_at | (rw [gs_ne (by omega)]; (first | assumption | exact gs_at | (rw [gs_ne (by omega)]; (first | assumption | exact gs_at))))))))) (by simp) rfl rfl ?_
  refine w_aload_n dX8_visits_31 rfl ?_
  refine w_getf dX8_visits_32 fl_X8_39 (by first | assumption | exact gs_at | (rw [gs_ne (by omega)]; (first | assumption | exact gs_at | (rw [gs_ne (by omega)]; (first | assumption | exact gs_at | (rw [gs_ne (by omega)]; (first | assumption | exact gs_at | (rw [gs_ne (by omega)]; (first | assumption | exact gs_at))))))))) rfl ?_
  refine w_ifN_le (tgt := 40) dX8_visits_35 (by decide) (fun c_35 => ?_) (fun c_35 => ?_)
  · try simp (disch := omega) only [nI_b2, Decidable.not_not, nI_ltI, nI_leI, nI_eq, ge_iff_le, gt_iff_lt, ne_eq, Nat.not_lt, Nat.not_le] at c_35
    refine w_aload_n dX8_visits_40 rfl ?_
    refine wV0d dX8_visits_41 lk_X8_145 rfl (by first | assumption | exact gs_at | (rw [gs_ne (by omega)]; (first | assumption | exact gs_at | (rw [gs_ne (by omega)]; (first | assumption | exact gs_at | (rw [gs_ne (by omega)]; (first | assumption | exact gs_at | (rw [gs_ne (by omega)]; (first | assumption | exact gs_at))))))))) rfl rfl (m_aside3 (mm := mm) rfl hm h3 h6) (Nat.le_of_ble_eq_true rfl) (Nat.le_of_ble_eq_true rfl) (Nat.le_of_ble_eq_true rfl) (Nat.le_of_ble_eq_true rfl) (fun G8 h_41 => ?_)
    obtain ⟨a, b, hG8, ha8⟩ := h_41
    subst hG8
    refine w_iconst (v := nI 0) dX8_visits_44 (by decide) ?_
    refine w_istore_3 dX8_visits_45 rfl ?_
    refine w_iconst (v := nI 0) dX8_visits_46 (by decide) ?_
    refine w_istore_4 dX8_visits_47 rfl ?_
    exact ml_visits hAsk hD hm0 hB hm ha8 (by omega) hj9 (fun b ba en at_ dp io hm_ we sh so => hQ _ ⟨a, b, ba, en, at_, dp, io, hm_, we, sh, so, rfl⟩) (j + 2) 0 b mm _ _ _ _ _ _ _ _ _ _ (by omega) (by omega) hR Keep.rf
  · try simp (disch := omega) only [nI_b2, Decidable.not_not, nI_ltI, nI_leI, nI_eq, ge_iff_le, gt_iff_lt, ne_eq, Nat.not_lt, Nat.not_le] at c_35
    exact absurd c_35 (by decide)
theorem m_visits {E : EV} {V : Nat} {th hi ac tp ba en at_ fa dp io hm_ we sh so : Int32} {mm : Nat → Int32} {T : ST} {sd : Int32} {G : AH}  {x y : Int32} (hV : G.1 V = some (mO V th hi ac tp ba en at_ fa dp io hm_ we sh so)) (hm : G.1 (V + 1) = some (aI 750 mm)) (hR : MoR mm T sd) (hB : Bd T)  {D : LD} (hAsk : AskC E D) (hD : WFD D) (hm0 : LwR mm D) (h3 : ∃ a : Nat → Int32, G.1 (V + 3) = some (aI 350 a)) (h6 : ∃ a : Nat → Int32, G.1 (V + 6) = some (aI 7 a)) : Ci E 59 kX8_visits [.ref V, .int x, .int y] G (fun r G1 => r = (if xk2 (okI (T 12 0) x) (okN 0 (nI 60) y) = 0 then nI (visN D T sd (ix x) (ix y)) else nI 0) ∧ (xk2 (okI (T 12 0) x) (okN 0 (nI 60) y) = 0 → AhP G V hi ac tp fa G1) ∧ (¬ xk2 (okI (T 12 0) x) (okN 0 (nI 60) y) = 0 → G1 = (gs G V (mO V (nI (xk2 (okI (T 12 0) x) (okN 0 (nI 60) y))) hi ac tp ba en at_ fa dp io hm_ we sh so)))) := by
  refine Ct.intro rfl (by decide) [.ref V, .int x, .int y, .float 0, .float 0, .float 0] (by simp [Value.category]) (Nat.le_of_ble_eq_true rfl) rfl ?_
  obtain ⟨r0, r3, r4, r5, r6, r7, r9, r11, r12, r14, r20, r26, rL⟩ := id hR
  obtain ⟨b0, b1, b2_, b3, b4, b5, b6, b7, b8, b9, b10, b11, b12, b13, b14, b15, b16, b17, b18, b19⟩ := id hB
  refine w_aload_n dX8_visits_0 rfl ?_
  refine w_aload_n dX8_visits_1 rfl ?_
  refine w_iload_n dX8_visits_2 rfl ?_
  refine wV1u dX8_visits_3 lk_X8_277 rfl (by first | assumption | exact gs_at | (rw [gs_ne (by omega)]; (first | assumption | exact gs_at | (rw [gs_ne (by omega)]; (first | assumption | exact gs_at | (rw [gs_ne (by omega)]; (first | assumption | exact gs_at | (rw [gs_ne (by omega)]; (first | assumption | exact gs_at))))))))) rfl rfl (m_isItem hV hm hR hB) (Nat.le_of_ble_eq_true rfl) (Nat.le_of_ble_eq_true rfl) (Nat.le_of_ble_eq_true rfl) (Nat.le_of_ble_eq_true rfl) ?_
  refine w_ifN_ne (tgt := 13) dX8_visits_6 (by decide) (fun c_6 => ?_) (fun c_6 => ?_)
  · try simp (disch := omega) only [nI_b2, Decidable.not_not, nI_ltI, nI_leI, nI_eq, ge_iff_le, gt_iff_lt, ne_eq, Nat.not_lt, Nat.not_le] at c_6
    refine w_iload_n dX8_visits_13 rfl ?_
    refine w_iconst (v := nI 0) dX8_visits_14 (by decide) ?_
    refine w_bipush (v := nI 60) dX8_visits_15 (by decide) ?_
    refine wS3u dX8_visits_17 lk_X8_42 rfl (m_isIn) (Nat.le_of_ble_eq_true rfl) (Nat.le_of_ble_eq_true rfl) (Nat.le_of_ble_eq_true rfl) (Nat.le_of_ble_eq_true rfl) ?_
    refine w_ifN_ne (tgt := 27) dX8_visits_20 (by decide) (fun c_20 => ?_) (fun c_20 => ?_)
    · try simp (disch := omega) only [nI_b2, Decidable.not_not, nI_ltI, nI_leI, nI_eq, ge_iff_le, gt_iff_lt, ne_eq, Nat.not_lt, Nat.not_le] at c_20
      refine w_iconst (v := nI 0) dX8_visits_27 (by decide) ?_
      first
        | (have kx : xk2 (okI (T 12 0) x) (okN 0 (nI 60) y) = 1 := (by rw [xk2, if_neg c_6]); exact mr_m_visits hV (by decide) ⟨_, rfl, by rw [kx]; rfl, fun e => absurd (kx.symm.trans e) (by decide), fun _ => by rw [kx]⟩)
        | (have kx : xk2 (okI (T 12 0) x) (okN 0 (nI 60) y) = 2 := (by rw [xk2, if_pos c_6, if_neg (show ¬ okN 0 (nI 60) y from c_20)]); exact mr_m_visits hV (by decide) ⟨_, rfl, by rw [kx]; rfl, fun e => absurd (kx.symm.trans e) (by decide), fun _ => by rw [kx]⟩)
        | (have kx : xk2 (okI (T 12 0) x) (okN 0 (nI 60) y) = 0 := (by rw [xk2, if_pos c_6, if_pos (show okN 0 (nI 60) y from c_20)]); obtain ⟨i, hi9, e⟩ := in_N (n := T 12 0) (by omega) c_6; subst e; obtain ⟨j, hj8, hj9, ej⟩ := in_L (a := 0) (n := 60) (by omega) (by omega) c_20; subst ej; exact mk_m_visits hi9 hj9 hAsk hD hm0 h3 h6 hV hm hR hB (fun G1 hG1 => ⟨_, rfl, by rw [kx, if_pos rfl, ix_nI (show i < 2 ^ 31 by omega), ix_nI (show j < 2 ^ 31 by omega)], fun _ => hG1, fun e => absurd kx e⟩))
    · try simp (disch := omega) only [nI_b2, Decidable.not_not, nI_ltI, nI_leI, nI_eq, ge_iff_le, gt_iff_lt, ne_eq, Nat.not_lt, Nat.not_le] at c_20
      refine w_iconst (v := nI 2) dX8_visits_23 (by decide) ?_
      refine w_goto (tgt := 28) dX8_visits_24 (by decide) ?_
      first
        | (have kx : xk2 (okI (T 12 0) x) (okN 0 (nI 60) y) = 1 := (by rw [xk2, if_neg c_6]); exact mr_m_visits hV (by decide) ⟨_, rfl, by rw [kx]; rfl, fun e => absurd (kx.symm.trans e) (by decide), fun _ => by rw [kx]⟩)
        | (have kx : xk2 (okI (T 12 0) x) (okN 0 (nI 60) y) = 2 := (by rw [xk2, if_pos c_6, if_neg (show ¬ okN 0 (nI 60) y from c_20)]); exact mr_m_visits hV (by decide) ⟨_, rfl, by rw [kx]; rfl, fun e => absurd (kx.symm.trans e) (by decide), fun _ => by rw [kx]⟩)
        | (have kx : xk2 (okI (T 12 0) x) (okN 0 (nI 60) y) = 0 := (by rw [xk2, if_pos c_6, if_pos (show okN 0 (nI 60) y from c_20)]); obtain ⟨i, hi9, e⟩ := in_N (n := T 12 0) (by omega) c_6; subst e; obtain ⟨j, hj8, hj9, ej⟩ := in_L (a := 0) (n := 60) (by omega) (by omega) c_20; subst ej; exact mk_m_visits hi9 hj9 hAsk hD hm0 h3 h6 hV hm hR hB (fun G1 hG1 => ⟨_, rfl, by rw [kx, if_pos rfl, ix_nI (show i < 2 ^ 31 by omega), ix_nI (show j < 2 ^ 31 by omega)], fun _ => hG1, fun e => absurd kx e⟩))
  · try simp (disch := omega) only [nI_b2, Decidable.not_not, nI_ltI, nI_leI, nI_eq, ge_iff_le, gt_iff_lt, ne_eq, Nat.not_lt, Nat.not_le] at c_6
    refine w_iconst (v := nI 1) dX8_visits_9 (by decide) ?_
    refine w_goto (tgt := 28) dX8_visits_10 (by decide) ?_
    first
      | (have kx : xk2 (okI (T 12 0) x) (okN 0 (nI 60) y) = 1 := (by rw [xk2, if_neg c_6]); exact mr_m_visits hV (by decide) ⟨_, rfl, by rw [kx]; rfl, fun e => absurd (kx.symm.trans e) (by decide), fun _ => by rw [kx]⟩)
      | (have kx : xk2 (okI (T 12 0) x) (okN 0 (nI 60) y) = 2 := (by rw [xk2, if_pos c_6, if_neg (show ¬ okN 0 (nI 60) y from c_20)]); exact mr_m_visits hV (by decide) ⟨_, rfl, by rw [kx]; rfl, fun e => absurd (kx.symm.trans e) (by decide), fun _ => by rw [kx]⟩)
      | (have kx : xk2 (okI (T 12 0) x) (okN 0 (nI 60) y) = 0 := (by rw [xk2, if_pos c_6, if_pos (show okN 0 (nI 60) y from c_20)]); obtain ⟨i, hi9, e⟩ := in_N (n := T 12 0) (by omega) c_6; subst e; obtain ⟨j, hj8, hj9, ej⟩ := in_L (a := 0) (n := 60) (by omega) (by omega) c_20; subst ej; exact mk_m_visits hi9 hj9 hAsk hD hm0 h3 h6 hV hm hR hB (fun G1 hG1 => ⟨_, rfl, by rw [kx, if_pos rfl, ix_nI (show i < 2 ^ 31 by omega), ix_nI (show j < 2 ^ 31 by omega)], fun _ => hG1, fun e => absurd kx e⟩))
