/-! the model: stays, visits -/
theorem mx_stays {E : EV} {Q : OC → AH → Prop} {V : Nat} {th hi ac tp fa : Int32} {mm a : Nat → Int32} {G : AH} {b nn : Nat → Int32} {ba en at_ dp io hm_ we sh so : Int32} {m n : Nat} {z : Value} {i : Nat} {T : ST} (hm : G.1 (V + 1) = some (aI 750 mm)) (ha8 : ∀ j, j < 350 → a j = mm j) (hK1 : Keep mm nn) (hm9 : m < 2 ^ 30) (hn9 : n ≤ 401)  (hQ : Q (.inl (some (.int (nI m)))) (gs (gs (gs G (V + 3) (aI 350 (a))) (V + 6) (aI 7 (b))) V (mO V th hi ac tp ba en at_ fa dp io hm_ we sh so))) : Wp E 59 0 0 kX8_stays Q (gs (gs (gs (gs G (V + 3) (aI 350 (a))) (V + 6) (aI 7 (b))) (V + 1) (aI 750 (nn))) V (mO V th hi ac tp ba en at_ fa dp io hm_ we sh so)) (0, 0) 42 [.ref V, .int (nI i), .int (nI (T 1 i)), .int (nI m), .int (nI (n + 1)), z] [] := by
  refine w_iload dX8_stays_42 rfl ?_
  refine w_sipush (v := nI 400) dX8_stays_44 (by decide) ?_
  refine w_icmp_gt (tgt := 82) dX8_stays_47 (by decide) (fun c_47 => ?_) (fun c_47 => ?_)
  · try simp (disch := omega) only [nI_ltI, nI_leI, nI_eq, ge_iff_le, gt_iff_lt, Nat.not_lt, Nat.not_le] at c_47
    refine w_aload_n dX8_stays_82 rfl ?_
    refine wV0d dX8_stays_83 lk_X8_155 rfl (by first | assumption | exact gs_at | (rw [gs_ne (by omega)]; (first | assumption | exact gs_at | (rw [gs_ne (by omega)]; (first | assumption | exact gs_at | (rw [gs_ne (by omega)]; (first | assumption | exact gs_at | (rw [gs_ne (by omega)]; (first | assumption | exact gs_at))))))))) rfl rfl (m_back3 (a := a) (b := b) (nn := nn) rfl hm ha8 hK1) (Nat.le_of_ble_eq_true rfl) (Nat.le_of_ble_eq_true rfl) (Nat.le_of_ble_eq_true rfl) (Nat.le_of_ble_eq_true rfl) (fun G9 h_83 => ?_)
    subst h_83
    refine w_iload_n dX8_stays_86 rfl ?_
    refine w_iret dX8_stays_87 rfl (Nat.le_of_ble_eq_true rfl) (Nat.le_of_ble_eq_true rfl) ?_
    exact hQ
  · try simp (disch := omega) only [nI_ltI, nI_leI, nI_eq, ge_iff_le, gt_iff_lt, Nat.not_lt, Nat.not_le] at c_47
    refine w_iload_n dX8_stays_50 rfl ?_
    refine w_iconst (v := (-1)) dX8_stays_51 (by decide) ?_
    refine w_icmp_ne (tgt := 82) dX8_stays_52 (by decide) (fun c_52 => ?_) (fun c_52 => ?_)
    · try simp (disch := omega) only [nI_ltI, nI_leI, nI_eq, ge_iff_le, gt_iff_lt, Nat.not_lt, Nat.not_le] at c_52
      refine w_aload_n dX8_stays_82 rfl ?_
      refine wV0d dX8_stays_83 lk_X8_155 rfl (by first | assumption | exact gs_at | (rw [gs_ne (by omega)]; (first | assumption | exact gs_at | (rw [gs_ne (by omega)]; (first | assumption | exact gs_at | (rw [gs_ne (by omega)]; (first | assumption | exact gs_at | (rw [gs_ne (by omega)]; (first | assumption | exact gs_at))))))))) rfl rfl (m_back3 (a := a) (b := b) (nn := nn) rfl hm ha8 hK1) (Nat.le_of_ble_eq_true rfl) (Nat.le_of_ble_eq_true rfl) (Nat.le_of_ble_eq_true rfl) (Nat.le_of_ble_eq_true rfl) (fun G9 h_83 => ?_)
      subst h_83
      refine w_iload_n dX8_stays_86 rfl ?_
      refine w_iret dX8_stays_87 rfl (Nat.le_of_ble_eq_true rfl) (Nat.le_of_ble_eq_true rfl) ?_
      exact hQ
    · try simp (disch := omega) only [nI_ltI, nI_leI, nI_eq, ge_iff_le, gt_iff_lt, Nat.not_lt, Nat.not_le] at c_52
      exact absurd c_52 (nI_nm1 (by omega))
theorem ml_stays {E : EV} {Q : OC → AH → Prop} {V : Nat} {th hi ac tp fa : Int32} {mm a : Nat → Int32} {T : ST} {sd : Int32} {G : AH} {D : LD} {i : Nat} (hAsk : AskC E D) (hD : WFD D) (hm0 : LwR mm D) (hB : Bd T) (hm : G.1 (V + 1) = some (aI 750 mm)) (ha8 : ∀ j, j < 350 → a j = mm j) (hi9 : i < 12) (hQ : ∀ (b : Nat → Int32) (ba en at_ dp io hm_ we sh so : Int32), Q (.inl (some (.int (syV D T sd i)))) (gs (gs (gs G (V + 3) (aI 350 (a))) (V + 6) (aI 7 (b))) V (mO V th hi ac tp ba en at_ fa dp io hm_ we sh so))) : ∀ (k n : Nat) (b nn : Nat → Int32) (ba en at_ dp io hm_ we sh so : Int32) (z : Value), 400 - n < k → n ≤ 400 → MoR nn (adv D 0 T sd n).1 (adv D 0 T sd n).2 → Keep mm nn → seekV (syP D T sd i) nI (400 - n) (n + 1) = syV D T sd i → Wp E 59 0 0 kX8_stays Q (gs (gs (gs (gs G (V + 3) (aI 350 (a))) (V + 6) (aI 7 (b))) (V + 1) (aI 750 (nn))) V (mO V th hi ac tp ba en at_ fa dp io hm_ we sh so)) (0, 0) 42 [.ref V, .int (nI i), .int (nI (T 1 i)), .int (-1), .int (nI (n + 1)), z] [] := by
  intro k
  induction k with
  | zero => intro n b nn ba en at_ dp io hm_ we sh so z h; exact absurd h (by omega)
  | succ k ih =>
    intro n b nn ba en at_ dp io hm_ we sh so z hk hn9 hRn hKn hv
    have hBn : Bd (adv D 0 T sd n).1 := hB.adv _
    refine w_iload dX8_stays_42 rfl ?_
    refine w_sipush (v := nI 400) dX8_stays_44 (by decide) ?_
    refine w_icmp_gt (tgt := 82) dX8_stays_47 (by decide) (fun c_47 => ?_) (fun c_47 => ?_)
    · try simp (disch := omega) only [nI_ltI, nI_leI, nI_eq, ge_iff_le, gt_iff_lt, Nat.not_lt, Nat.not_le] at c_47
      refine w_aload_n dX8_stays_82 rfl ?_
      refine wV0d dX8_stays_83 lk_X8_155 rfl (by first | assumption | exact gs_at | (rw [gs_ne (by omega)]; (first | assumption | exact gs_at | (rw [gs_ne (by omega)]; (first | assumption | exact gs_at | (rw [gs_ne (by omega)]; (first | assumption | exact gs_at | (rw [gs_ne (by omega)]; (first | assumption | exact gs_at))))))))) rfl rfl (m_back3 (a := a) (b := b) (nn := nn) rfl hm ha8 hKn) (Nat.le_of_ble_eq_true rfl) (Nat.le_of_ble_eq_true rfl) (Nat.le_of_ble_eq_true rfl) (Nat.le_of_ble_eq_true rfl) (fun G9 h_83 => ?_)
      subst h_83
      refine w_iload_n dX8_stays_86 rfl ?_
      refine w_iret dX8_stays_87 rfl (Nat.le_of_ble_eq_true rfl) (Nat.le_of_ble_eq_true rfl) ?_
      have e : n = 400 := by omega
      subst e
      have h9 := hQ b ba en at_ dp io hm_ we sh so
      rw [← hv] at h9
      exact h9
    · try simp (disch := omega) only [nI_ltI, nI_leI, nI_eq, ge_iff_le, gt_iff_lt, Nat.not_lt, Nat.not_le] at c_47
      refine w_iload_n dX8_stays_50 rfl ?_
      refine w_iconst (v := (-1)) dX8_stays_51 (by decide) ?_
      refine w_icmp_ne (tgt := 82) dX8_stays_52 (by decide) (fun c_52 => ?_) (fun c_52 => ?_)
      · try simp (disch := omega) only [nI_ltI, nI_leI, nI_eq, ge_iff_le, gt_iff_lt, Nat.not_lt, Nat.not_le] at c_52
        exact absurd trivial c_52
      · try simp (disch := omega) only [nI_ltI, nI_leI, nI_eq, ge_iff_le, gt_iff_lt, Nat.not_lt, Nat.not_le] at c_52
        rw [show 400 - n = (400 - (n + 1)) + 1 by omega, seekV] at hv
        refine w_aload_n dX8_stays_55 rfl ?_
        refine w_iconst (v := nI 1) dX8_stays_56 (by decide) ?_
        refine w_iconst (v := nI 0) dX8_stays_57 (by decide) ?_
        refine wV2i dX8_stays_58 lk_X8_298 rfl (by first | assumption | exact gs_at | (rw [gs_ne (by omega)]; (first | assumption | exact gs_at | (rw [gs_ne (by omega)]; (first | assumption | exact gs_at | (rw [gs_ne (by omega)]; (first | assumption | exact gs_at | (rw [gs_ne (by omega)]; (first | assumption | exact gs_at))))))))) rfl rfl (m_goes3 (a := a) (b := b) (nn := nn) rfl hAsk hD (hm0.keep hKn) hBn (st := 0) (by omega) (by decide) hRn) (Nat.le_of_ble_eq_true rfl) (Nat.le_of_ble_eq_true rfl) (Nat.le_of_ble_eq_true rfl) (Nat.le_of_ble_eq_true rfl) (fun r1 G1 h_58 => ?_)
        obtain ⟨hr1, b, n1, ba, en, at_, dp, io, hm_, we, sh, so, hG1, hR1, hK1⟩ := h_58
        subst hG1
        subst hr1
        have hR1 : MoR n1 (adv D 0 T sd (n + 1)).1 (adv D 0 T sd (n + 1)).2 := hR1
        have hBm : Bd (adv D 0 T sd (n + 1)).1 := hB.adv _
        have q1 := hBm.2.2.1 i; have q2 := hB.2.2.1 i
        refine w_istore_5 dX8_stays_61 rfl ?_
        refine w_aload_n dX8_stays_63 rfl ?_
        refine w_iload_n dX8_stays_64 rfl ?_
        refine w_iconst (v := nI 1) dX8_stays_65 (by decide) ?_
        refine wV2u dX8_stays_66 lk_X8_46 rfl (by first | assumption | exact gs_at | (rw [gs_ne (by omega)]; (first | assumption | exact gs_at | (rw [gs_ne (by omega)]; (first | assumption | exact gs_at | (rw [gs_ne (by omega)]; (first | assumption | exact gs_at | (rw [gs_ne (by omega)]; (first | assumption | exact gs_at))))))))) rfl rfl (m_of (w := 1) gs_at ((gs_ne (by omega)).trans gs_at) hR1 hBm (by omega) (by decide)) (Nat.le_of_ble_eq_true rfl) (Nat.le_of_ble_eq_true rfl) (Nat.le_of_ble_eq_true rfl) (Nat.le_of_ble_eq_true rfl) ?_
        refine w_iload_n dX8_stays_69 rfl ?_
        refine w_icmp_eq (tgt := 76) dX8_stays_70 (by decide) (fun c_70 => ?_) (fun c_70 => ?_)
        · try simp (disch := omega) only [nI_ltI, nI_leI, nI_eq, ge_iff_le, gt_iff_lt, Nat.not_lt, Nat.not_le] at c_70
          first | refine w_iinc_4 dX8_stays_76 (nI_inc _) rfl ?_ | refine w_iinc_4 dX8_stays_76 rfl rfl ?_
          refine w_goto (tgt := 42) dX8_stays_79 (by decide) ?_
          first
            | (rw [if_pos (show syP D T sd i (n + 1) from c_70)] at hv; refine mx_stays hm ha8 (hKn.tr hK1) (by omega) (by omega) ?_; rw [hv]; exact hQ _ _ _ _ _ _ _ _ _ _)
            | (rw [if_neg (show ¬ syP D T sd i (n + 1) from fun h => h c_70)] at hv; exact ih (n + 1) b n1 _ _ _ _ _ _ _ _ _ _ (by omega) (by omega) hR1 (hKn.tr hK1) hv)
        · try simp (disch := omega) only [nI_ltI, nI_leI, nI_eq, ge_iff_le, gt_iff_lt, Nat.not_lt, Nat.not_le] at c_70
          refine w_iload dX8_stays_73 rfl ?_
          refine w_istore_3 dX8_stays_75 rfl ?_
          first | refine w_iinc_4 dX8_stays_76 (nI_inc _) rfl ?_ | refine w_iinc_4 dX8_stays_76 rfl rfl ?_
          refine w_goto (tgt := 42) dX8_stays_79 (by decide) ?_
          first
            | (rw [if_pos (show syP D T sd i (n + 1) from c_70)] at hv; refine mx_stays hm ha8 (hKn.tr hK1) (by omega) (by omega) ?_; rw [hv]; exact hQ _ _ _ _ _ _ _ _ _ _)
            | (rw [if_neg (show ¬ syP D T sd i (n + 1) from fun h => h c_70)] at hv; exact ih (n + 1) b n1 _ _ _ _ _ _ _ _ _ _ (by omega) (by omega) hR1 (hKn.tr hK1) hv)
theorem mr_m_stays {E : EV} {Q : OC → AH → Prop} {V : Nat} {th hi ac tp ba en at_ fa dp io hm_ we sh so : Int32} {G : AH} {x : Int32} {j : Nat} (hV : G.1 V = some (mO V th hi ac tp ba en at_ fa dp io hm_ we sh so)) (hj : 0 < j ∧ j < 4) (hQ : Q (.inl (some (.int (nI 0)))) (gs G V (mO V (nI j) hi ac tp ba en at_ fa dp io hm_ we sh so))) : Wp E 59 0 0 kX8_stays Q G (0, 0) 14 [.ref V, .int x, .float 0, .float 0, .float 0, .float 0] [.int (nI j), .ref V] := by
  refine w_putf dX8_stays_14 fl_X8_39 (by first | assumption | exact gs_at | (rw [gs_ne (by omega)]; (first | assumption | exact gs_at | (rw [gs_ne (by omega)]; (first | assumption | exact gs_at | (rw [gs_ne (by omega)]; (first | assumption | exact gs_at | (rw [gs_ne (by omega)]; (first | assumption | exact gs_at))))))))) (by simp) rfl rfl ?_
  refine w_aload_n dX8_stays_17 rfl ?_
  refine w_getf dX8_stays_18 fl_X8_39 (by first | assumption | exact gs_at | (rw [gs_ne (by omega)]; (first | assumption | exact gs_at | (rw [gs_ne (by omega)]; (first | assumption | exact gs_at | (rw [gs_ne (by omega)]; (first | assumption | exact gs_at | (rw [gs_ne (by omega)]; (first | assumption | exact gs_at))))))))) rfl ?_
  refine w_ifN_le (tgt := 26) dX8_stays_21 (by decide) (fun c_21 => ?_) (fun c_21 => ?_)
  · try simp (disch := omega) only [nI_b2, Decidable.not_not, nI_ltI, nI_leI, nI_eq, ge_iff_le, gt_iff_lt, ne_eq, Nat.not_lt, Nat.not_le] at c_21
    exact absurd c_21 (by omega)
  · try simp (disch := omega) only [nI_b2, Decidable.not_not, nI_ltI, nI_leI, nI_eq, ge_iff_le, gt_iff_lt, ne_eq, Nat.not_lt, Nat.not_le] at c_21
    refine w_iconst (v := nI 0) dX8_stays_24 (by decide) ?_
    refine w_iret dX8_stays_25 rfl (Nat.le_of_ble_eq_true rfl) (Nat.le_of_ble_eq_true rfl) ?_
    exact hQ
theorem mk_m_stays {E : EV} {Q : OC → AH → Prop} {V : Nat} {th hi ac tp ba en at_ fa dp io hm_ we sh so : Int32} {mm : Nat → Int32} {T : ST} {sd : Int32} {G : AH}  {i : Nat} {D : LD} (hi9 : i < T 12 0) (hAsk : AskC E D) (hD : WFD D) (hm0 : LwR mm D) (h3 : ∃ a : Nat → Int32, G.1 (V + 3) = some (aI 350 a)) (h6 : ∃ a : Nat → Int32, G.1 (V + 6) = some (aI 7 a)) (hV : G.1 V = some (mO V th hi ac tp ba en at_ fa dp io hm_ we sh so)) (hm : G.1 (V + 1) = some (aI 750 mm)) (hR : MoR mm T sd) (hB : Bd T)  (hQ : ∀ G1, AhP G V hi ac tp fa G1 → Q (.inl (some (.int ((syV D T sd i))))) G1) : Wp E 59 0 0 kX8_stays Q G (0, 0) 14 [.ref V, .int (nI i), .float 0, .float 0, .float 0, .float 0] [.int (nI 0), .ref V] := by
  obtain ⟨r0, r3, r4, r5, r6, r7, r9, r11, r12, r14, r20, r26, rL⟩ := id hR
  obtain ⟨b0, b1, b2_, b3, b4, b5, b6, b7, b8, b9, b10, b11, b12, b13, b14, b15, b16, b17, b18, b19⟩ := id hB
  have hV2 : (gs G V (mO V (nI 0) hi ac tp ba en at_ fa dp io hm_ we sh so)).1 V = some (mO V (nI 0) hi ac tp ba en at_ fa dp io hm_ we sh so) := gs_at
  have hm2 : (gs G V (mO V (nI 0) hi ac tp ba en at_ fa dp io hm_ we sh so)).1 (V + 1) = some (aI 750 mm) := (gs_ne (by omega)).trans hm
  refine w_putf dX8_stays_14 fl_X8_39 (by first | assumption | exact gs_at | (rw [gs_ne (by omega)]; (first | assumption | exact gs_at | (rw [gs_ne (by omega)]; (first | assumption | exact gs_at | (rw [gs_ne (by omega)]; (first | assumption | exact gs_at | (rw [gs_ne (by omega)]; (first | assumption | exact gs_at))))))))) (by simp) rfl rfl ?_
  refine w_aload_n dX8_stays_17 rfl ?_
  refine w_getf dX8_stays_18 fl_X8_39 (by first | assumption | exact gs_at | (rw [gs_ne (by omega)]; (first | assumption | exact gs_at | (rw [gs_ne (by omega)]; (first | assumption | exact gs_at | (rw [gs_ne (by omega)]; (first | assumption | exact gs_at | (rw [gs_ne (by omega)]; (first | assumption | exact gs_at))))))))) rfl ?_
  refine w_ifN_le (tgt := 26) dX8_stays_21 (by decide) (fun c_21 => ?_) (fun c_21 => ?_)
  · try simp (disch := omega) only [nI_b2, Decidable.not_not, nI_ltI, nI_leI, nI_eq, ge_iff_le, gt_iff_lt, ne_eq, Nat.not_lt, Nat.not_le] at c_21
    refine w_aload_n dX8_stays_26 rfl ?_
    refine wV0d dX8_stays_27 lk_X8_145 rfl (by first | assumption | exact gs_at | (rw [gs_ne (by omega)]; (first | assumption | exact gs_at | (rw [gs_ne (by omega)]; (first | assumption | exact gs_at | (rw [gs_ne (by omega)]; (first | assumption | exact gs_at | (rw [gs_ne (by omega)]; (first | assumption | exact gs_at))))))))) rfl rfl (m_aside3 (mm := mm) rfl hm h3 h6) (Nat.le_of_ble_eq_true rfl) (Nat.le_of_ble_eq_true rfl) (Nat.le_of_ble_eq_true rfl) (Nat.le_of_ble_eq_true rfl) (fun G8 h_27 => ?_)
    obtain ⟨a, b, hG8, ha8⟩ := h_27
    subst hG8
    refine w_aload_n dX8_stays_30 rfl ?_
    refine w_iload_n dX8_stays_31 rfl ?_
    refine w_iconst (v := nI 1) dX8_stays_32 (by decide) ?_
    refine wV2u dX8_stays_33 lk_X8_46 rfl (by first | assumption | exact gs_at | (rw [gs_ne (by omega)]; (first | assumption | exact gs_at | (rw [gs_ne (by omega)]; (first | assumption | exact gs_at | (rw [gs_ne (by omega)]; (first | assumption | exact gs_at | (rw [gs_ne (by omega)]; (first | assumption | exact gs_at))))))))) rfl rfl (m_of (w := 1) gs_at ((gs_ne (by omega)).trans gs_at) hR hB (by omega) (by decide)) (Nat.le_of_ble_eq_true rfl) (Nat.le_of_ble_eq_true rfl) (Nat.le_of_ble_eq_true rfl) (Nat.le_of_ble_eq_true rfl) ?_
    refine w_istore_2 dX8_stays_36 rfl ?_
    refine w_iconst (v := (-1)) dX8_stays_37 (by decide) ?_
    refine w_istore_3 dX8_stays_38 rfl ?_
    refine w_iconst (v := nI 1) dX8_stays_39 (by decide) ?_
    refine w_istore_4 dX8_stays_40 rfl ?_
    exact ml_stays hAsk hD hm0 hB hm ha8 (by omega) (fun b ba en at_ dp io hm_ we sh so => hQ _ ⟨a, b, ba, en, at_, dp, io, hm_, we, sh, so, rfl⟩) 401 0 b mm _ _ _ _ _ _ _ _ _ _ (by omega) (by omega) hR Keep.rf rfl
  · try simp (disch := omega) only [nI_b2, Decidable.not_not, nI_ltI, nI_leI, nI_eq, ge_iff_le, gt_iff_lt, ne_eq, Nat.not_lt, Nat.not_le] at c_21
    exact absurd c_21 (by decide)
theorem m_stays {E : EV} {V : Nat} {th hi ac tp ba en at_ fa dp io hm_ we sh so : Int32} {mm : Nat → Int32} {T : ST} {sd : Int32} {G : AH}  {x : Int32} (hV : G.1 V = some (mO V th hi ac tp ba en at_ fa dp io hm_ we sh so)) (hm : G.1 (V + 1) = some (aI 750 mm)) (hR : MoR mm T sd) (hB : Bd T)  {D : LD} (hAsk : AskC E D) (hD : WFD D) (hm0 : LwR mm D) (h3 : ∃ a : Nat → Int32, G.1 (V + 3) = some (aI 350 a)) (h6 : ∃ a : Nat → Int32, G.1 (V + 6) = some (aI 7 a)) : Ci E 59 kX8_stays [.ref V, .int x] G (fun r G1 => r = (if xk1 (okI (T 12 0) x) = 0 then (syV D T sd (ix x)) else nI 0) ∧ (xk1 (okI (T 12 0) x) = 0 → AhP G V hi ac tp fa G1) ∧ (¬ xk1 (okI (T 12 0) x) = 0 → G1 = (gs G V (mO V (nI (xk1 (okI (T 12 0) x))) hi ac tp ba en at_ fa dp io hm_ we sh so)))) := by
  refine Ct.intro rfl (by decide) [.ref V, .int x, .float 0, .float 0, .float 0, .float 0] (by simp [Value.category]) (Nat.le_of_ble_eq_true rfl) rfl ?_
  obtain ⟨r0, r3, r4, r5, r6, r7, r9, r11, r12, r14, r20, r26, rL⟩ := id hR
  obtain ⟨b0, b1, b2_, b3, b4, b5, b6, b7, b8, b9, b10, b11, b12, b13, b14, b15, b16, b17, b18, b19⟩ := id hB
  refine w_aload_n dX8_stays_0 rfl ?_
  refine w_aload_n dX8_stays_1 rfl ?_
  refine w_iload_n dX8_stays_2 rfl ?_
  refine wV1u dX8_stays_3 lk_X8_277 rfl (by first | assumption | exact gs_at | (rw [gs_ne (by omega)]; (first | assumption | exact gs_at | (rw [gs_ne (by omega)]; (first | assumption | exact gs_at | (rw [gs_ne (by omega)]; (first | assumption | exact gs_at | (rw [gs_ne (by omega)]; (first | assumption | exact gs_at))))))))) rfl rfl (m_isItem hV hm hR hB) (Nat.le_of_ble_eq_true rfl) (Nat.le_of_ble_eq_true rfl) (Nat.le_of_ble_eq_true rfl) (Nat.le_of_ble_eq_true rfl) ?_
  refine w_ifN_ne (tgt := 13) dX8_stays_6 (by decide) (fun c_6 => ?_) (fun c_6 => ?_)
  · try simp (disch := omega) only [nI_b2, Decidable.not_not, nI_ltI, nI_leI, nI_eq, ge_iff_le, gt_iff_lt, ne_eq, Nat.not_lt, Nat.not_le] at c_6
    refine w_iconst (v := nI 0) dX8_stays_13 (by decide) ?_
    first
      | (have kx : xk1 (okI (T 12 0) x) = 1 := (by rw [xk1, if_neg c_6]); exact mr_m_stays hV (by decide) ⟨_, rfl, by rw [kx]; rfl, fun e => absurd (kx.symm.trans e) (by decide), fun _ => by rw [kx]⟩)
      | (have kx : xk1 (okI (T 12 0) x) = 0 := (by rw [xk1, if_pos c_6]); obtain ⟨i, hi9, e⟩ := in_N (n := T 12 0) (by omega) c_6; subst e; exact mk_m_stays hi9 hAsk hD hm0 h3 h6 hV hm hR hB (fun G1 hG1 => ⟨_, rfl, by rw [kx, if_pos rfl, ix_nI (show i < 2 ^ 31 by omega)], fun _ => hG1, fun e => absurd kx e⟩))
  · try simp (disch := omega) only [nI_b2, Decidable.not_not, nI_ltI, nI_leI, nI_eq, ge_iff_le, gt_iff_lt, ne_eq, Nat.not_lt, Nat.not_le] at c_6
    refine w_iconst (v := nI 1) dX8_stays_9 (by decide) ?_
    refine w_goto (tgt := 14) dX8_stays_10 (by decide) ?_
    first
      | (have kx : xk1 (okI (T 12 0) x) = 1 := (by rw [xk1, if_neg c_6]); exact mr_m_stays hV (by decide) ⟨_, rfl, by rw [kx]; rfl, fun e => absurd (kx.symm.trans e) (by decide), fun _ => by rw [kx]⟩)
      | (have kx : xk1 (okI (T 12 0) x) = 0 := (by rw [xk1, if_pos c_6]); obtain ⟨i, hi9, e⟩ := in_N (n := T 12 0) (by omega) c_6; subst e; exact mk_m_stays hi9 hAsk hD hm0 h3 h6 hV hm hR hB (fun G1 hG1 => ⟨_, rfl, by rw [kx, if_pos rfl, ix_nI (show i < 2 ^ 31 by omega)], fun _ => hG1, fun e => absurd kx e⟩))
