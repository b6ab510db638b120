/-! the model: span -/
def spS (D : LD) (T : ST) (n mo : Nat) : Nat → Int32 | 0 => -1 | k + 1 => nI (spnN D T n mo k)
theorem spn_le {D : LD} {T : ST} (hB : Bd T) (n mo : Nat) : ∀ k, spnN D T n mo k ≤ 1188
  | 0 => wrS_le hB n 1
  | k + 1 => by
    have h1 := spn_le (D := D) hB n mo k; have h2 := wrS_le (D := D) hB n (k + 2)
    rw [spnN]; split <;> omega
theorem ml_span {E : EV} {Q : OC → AH → Prop} {V : Nat} {th hi ac tp fa : Int32} {mm a : Nat → Int32} {T : ST} {sd : Int32} {G : AH} {D : LD} {y mo : Nat} (hAsk : AskC E D) (hD : WFD D) (hm0 : LwR mm D) (hB : Bd T) (hm : G.1 (V + 1) = some (aI 750 mm)) (ha8 : ∀ j, j < 350 → a j = mm j) (hR : MoR mm T sd) (hmo : mo < 2 ^ 30) (hy9 : y ≤ 400) (hQ : ∀ (b : Nat → Int32) (ba en at_ dp io hm_ we sh so : Int32), Q (.inl (some (.int (nI (spnN D T y mo 5))))) (gs (gs (gs G (V + 3) (aI 350 (a))) (V + 6) (aI 7 (b))) V (mO V th hi ac tp ba en at_ fa dp io hm_ we sh so))) : ∀ (k n : Nat) (b : Nat → Int32) (ba en at_ dp io hm_ we sh so : Int32) (z z2 : Value), 6 - n < k → n ≤ 6 → Wp E 59 0 0 kX8_span Q (gs (gs (gs G (V + 3) (aI 350 (a))) (V + 6) (aI 7 (b))) V (mO V th hi ac tp ba en at_ fa dp io hm_ we sh so)) (0, 0) 38 [.ref V, .int (nI y), .int (nI mo), .int (spS D T y mo n), .int (nI (n + 1)), z, z2] [] := by
  intro k
  induction k with
  | zero => intro n b ba en at_ dp io hm_ we sh so z z2 h; exact absurd h (by omega)
  | succ k ih =>
    intro n b ba en at_ dp io hm_ we sh so z z2 hk hn9
    have hw9 := wrS_le (D := D) hB y (n + 1)
    have hmz : (gs (gs (gs G (V + 3) (aI 350 (a))) (V + 6) (aI 7 (b))) V (mO V th hi ac tp ba en at_ fa dp io hm_ we sh so)).1 (V + 1) = some (aI 750 mm) := (gs_ne (by omega)).trans ((gs_ne (by omega)).trans ((gs_ne (by omega)).trans hm))
    refine w_iload dX8_span_38 rfl ?_
    refine w_bipush (v := nI 6) dX8_span_40 (by decide) ?_
    refine w_icmp_gt (tgt := 109) dX8_span_42 (by decide) (fun c_42 => ?_) (fun c_42 => ?_)
    · try simp (disch := omega) only [nI_ltI, nI_leI, nI_eq, ge_iff_le, gt_iff_lt, Nat.not_lt, Nat.not_le] at c_42
      refine w_iload_n dX8_span_109 rfl ?_
      refine w_iret dX8_span_110 rfl (Nat.le_of_ble_eq_true rfl) (Nat.le_of_ble_eq_true rfl) ?_
      have e : n = 6 := by omega
      subst e
      exact hQ b ba en at_ dp io hm_ we sh so
    · try simp (disch := omega) only [nI_ltI, nI_leI, nI_eq, ge_iff_le, gt_iff_lt, Nat.not_lt, Nat.not_le] at c_42
      refine w_aload_n dX8_span_45 rfl ?_
      refine w_getf dX8_span_46 fl_X8_7 (by first | assumption | exact gs_at | (rw [gs_ne (by omega)]; (first | assumption | exact gs_at | (rw [gs_ne (by omega)]; (first | assumption | exact gs_at | (rw [gs_ne (by omega)]; (first | assumption | exact gs_at | (rw [gs_ne (by omega)]; (first | assumption | exact gs_at))))))))) rfl ?_
      refine w_bipush (v := nI 12) dX8_span_49 (by decide) ?_
      refine w_iload dX8_span_51 rfl ?_
      refine w_iastore dX8_span_53 (by first | assumption | exact gs_at | (rw [gs_ne (by omega)]; (first | assumption | exact gs_at | (rw [gs_ne (by omega)]; (first | assumption | exact gs_at | (rw [gs_ne (by omega)]; (first | assumption | exact gs_at | (rw [gs_ne (by omega)]; (first | assumption | exact gs_at))))))))) (by first | assumption | exact vp_in_nI (by omega) (by omega) | exact vp_in_nI (by assumption) (by omega)) ?_
      rw [nI_clamp (by omega)]
      rw [gs_comm (a := V) (b := V + 1) (by omega)]
      refine w_aload_n dX8_span_54 rfl ?_
      refine w_iload_n dX8_span_55 rfl ?_
      refine w_iconst (v := nI 1) dX8_span_56 (by decide) ?_
      refine wV2i dX8_span_57 lk_X8_298 rfl (by first | assumption | exact gs_at | (rw [gs_ne (by omega)]; (first | assumption | exact gs_at | (rw [gs_ne (by omega)]; (first | assumption | exact gs_at | (rw [gs_ne (by omega)]; (first | assumption | exact gs_at | (rw [gs_ne (by omega)]; (first | assumption | exact gs_at))))))))) rfl rfl (m_goes3 (a := a) (b := b) (nn := upd mm 12 (nI (n + 1))) rfl hAsk hD (hm0.keep (Keep.up (by decide) (by decide) (by decide))) hB (st := 1) (by omega) hy9 (hR.seed (s2 := nI (n + 1)))) (Nat.le_of_ble_eq_true rfl) (Nat.le_of_ble_eq_true rfl) (Nat.le_of_ble_eq_true rfl) (Nat.le_of_ble_eq_true rfl) (fun r1 G1 h_57 => ?_)
      obtain ⟨hr1, b, n1, ba, en, at_, dp, io, hm_, we, sh, so, hG1, hR1, hK1⟩ := h_57
      subst hG1
      subst hr1
      refine w_istore_5 dX8_span_60 rfl ?_
      refine w_aload_n dX8_span_62 rfl ?_
      refine w_iconst (v := nI 2) dX8_span_63 (by decide) ?_
      refine wV1u dX8_span_64 lk_X8_325 rfl (by first | assumption | exact gs_at | (rw [gs_ne (by omega)]; (first | assumption | exact gs_at | (rw [gs_ne (by omega)]; (first | assumption | exact gs_at | (rw [gs_ne (by omega)]; (first | assumption | exact gs_at | (rw [gs_ne (by omega)]; (first | assumption | exact gs_at))))))))) rfl rfl (m_together gs_at ((gs_ne (by omega)).trans gs_at) hR1 (hB.adv _) (by decide)) (Nat.le_of_ble_eq_true rfl) (Nat.le_of_ble_eq_true rfl) (Nat.le_of_ble_eq_true rfl) (Nat.le_of_ble_eq_true rfl) ?_
      rw [adv_0]
      have hKs : Keep mm n1 := (Keep.up (by decide) (by decide) (by decide)).tr hK1
      refine w_istore_6 dX8_span_67 rfl ?_
      refine w_aload_n dX8_span_69 rfl ?_
      refine wV0d dX8_span_70 lk_X8_155 rfl (by first | assumption | exact gs_at | (rw [gs_ne (by omega)]; (first | assumption | exact gs_at | (rw [gs_ne (by omega)]; (first | assumption | exact gs_at | (rw [gs_ne (by omega)]; (first | assumption | exact gs_at | (rw [gs_ne (by omega)]; (first | assumption | exact gs_at))))))))) rfl rfl (m_back3 (a := a) (b := b) (nn := n1) rfl hm ha8 hKs) (Nat.le_of_ble_eq_true rfl) (Nat.le_of_ble_eq_true rfl) (Nat.le_of_ble_eq_true rfl) (Nat.le_of_ble_eq_true rfl) (fun G9 h_70 => ?_)
      subst h_70
      have e9 : sumN (T 12 0) ((adv D 1 T (nI (n + 1)) y).1 2) = wrS D T y (n + 1) := rfl
      rw [e9]
      rcases Nat.eq_zero_or_pos n with h0 | h0
      · subst h0
        refine w_iload_n dX8_span_73 rfl ?_
        refine w_iconst (v := (-1)) dX8_span_74 (by decide) ?_
        refine w_icmp_ne (tgt := 83) dX8_span_75 (by decide) (fun c_75 => ?_) (fun c_75 => ?_)
        · try simp (disch := omega) only [nI_ltI, nI_leI, nI_eq, ge_iff_le, gt_iff_lt, Nat.not_lt, Nat.not_le] at c_75
          exact absurd rfl c_75
        · try simp (disch := omega) only [nI_ltI, nI_leI, nI_eq, ge_iff_le, gt_iff_lt, Nat.not_lt, Nat.not_le] at c_75
          refine w_iload dX8_span_78 rfl ?_
          refine w_goto (tgt := 102) dX8_span_80 (by decide) ?_
          refine w_istore_3 dX8_span_102 rfl ?_
          first | refine w_iinc_4 dX8_span_103 (nI_inc _) rfl ?_ | refine w_iinc_4 dX8_span_103 rfl rfl ?_
          refine w_goto (tgt := 38) dX8_span_106 (by decide) ?_
          exact ih (0 + 1) b ba en at_ dp io hm_ we sh so _ _ (by omega) (by omega)
      · obtain ⟨q, rfl⟩ : ∃ q, n = q + 1 := ⟨n - 1, by omega⟩
        have es : spS D T y mo (q + 1) = nI (spnN D T y mo q) := rfl
        have hq9 := spn_le (D := D) hB y mo q
        rw [es]
        refine w_iload_n dX8_span_73 rfl ?_
        refine w_iconst (v := (-1)) dX8_span_74 (by decide) ?_
        refine w_icmp_ne (tgt := 83) dX8_span_75 (by decide) (fun c_75 => ?_) (fun c_75 => ?_)
        · try simp (disch := omega) only [nI_ltI, nI_leI, nI_eq, ge_iff_le, gt_iff_lt, Nat.not_lt, Nat.not_le] at c_75
          refine w_iload_n dX8_span_83 rfl ?_
          refine w_ifN_eq (tgt := 96) dX8_span_84 (by decide) (fun c_84 => ?_) (fun c_84 => ?_)
          · try simp (disch := omega) only [nI_ltI, nI_leI, nI_eq, ge_iff_le, gt_iff_lt, Nat.not_lt, Nat.not_le] at c_84
            refine w_iload_n dX8_span_96 rfl ?_
            refine w_iload dX8_span_97 rfl ?_
            refine wS2u dX8_span_99 lk_X8_222 rfl (m_lesser (by omega) (by omega)) (Nat.le_of_ble_eq_true rfl) (Nat.le_of_ble_eq_true rfl) (Nat.le_of_ble_eq_true rfl) (Nat.le_of_ble_eq_true rfl) ?_
            refine w_istore_3 dX8_span_102 rfl ?_
            first | refine w_iinc_4 dX8_span_103 (nI_inc _) rfl ?_ | refine w_iinc_4 dX8_span_103 rfl rfl ?_
            refine w_goto (tgt := 38) dX8_span_106 (by decide) ?_
            have hN := ih (q + 1 + 1) b ba en at_ dp io hm_ we sh so
            rw [show spS D T y mo (q + 1 + 1) = nI (spnN D T y mo (q + 1)) from rfl, spnN] at hN
            first
              | (rw [if_pos c_84] at hN; exact hN _ _ (by omega) (by omega))
              | (rw [if_neg c_84] at hN; exact hN _ _ (by omega) (by omega))
          · try simp (disch := omega) only [nI_ltI, nI_leI, nI_eq, ge_iff_le, gt_iff_lt, Nat.not_lt, Nat.not_le] at c_84
            refine w_iload_n dX8_span_87 rfl ?_
            refine w_iload dX8_span_88 rfl ?_
            refine wS2u dX8_span_90 lk_X8_219 rfl (m_greater (by omega) (by omega)) (Nat.le_of_ble_eq_true rfl) (Nat.le_of_ble_eq_true rfl) (Nat.le_of_ble_eq_true rfl) (Nat.le_of_ble_eq_true rfl) ?_
            refine w_goto (tgt := 102) dX8_span_93 (by decide) ?_
            refine w_istore_3 dX8_span_102 rfl ?_
            first | refine w_iinc_4 dX8_span_103 (nI_inc _) rfl ?_ | refine w_iinc_4 dX8_span_103 rfl rfl ?_
            refine w_goto (tgt := 38) dX8_span_106 (by decide) ?_
            have hN := ih (q + 1 + 1) b ba en at_ dp io hm_ we sh so
            rw [show spS D T y mo (q + 1 + 1) = nI (spnN D T y mo (q + 1)) from rfl, spnN] at hN
            first
              | (rw [if_pos c_84] at hN; exact hN _ _ (by omega) (by omega))
              | (rw [if_neg c_84] at hN; exact hN _ _ (by omega) (by omega))
        · try simp (disch := omega) only [nI_ltI, nI_leI, nI_eq, ge_iff_le, gt_iff_lt, Nat.not_lt, Nat.not_le] at c_75
          exact absurd c_75 (nI_nm1 (by omega))
theorem mr_m_span {E : EV} {Q : OC → AH → Prop} {V : Nat} {th hi ac tp ba en at_ fa dp io hm_ we sh so : Int32} {G : AH} {x : Int32} {mo : Nat} {j : Nat} (hV : G.1 V = some (mO V th hi ac tp ba en at_ fa dp io hm_ we sh so)) (hj : 0 < j ∧ j < 4) (hQ : Q (.inl (some (.int (nI 0)))) (gs G V (mO V (nI j) hi ac tp ba en at_ fa dp io hm_ we sh so))) : Wp E 59 0 0 kX8_span Q G (0, 0) 17 [.ref V, .int x, .int (nI mo), .float 0, .float 0, .float 0, .float 0] [.int (nI j), .ref V] := by
  refine w_putf dX8_span_17 fl_X8_39 (by first | assumption | exact gs_at | (rw [gs_ne (by omega)]; (first | assumption | exact gs_at | (rw [gs_ne (by omega)]; (first | assumption | exact gs_at | (rw [gs_ne (by omega)]; (first | assumption | exact gs_at | (rw [gs_ne (by omega)]; (first | assumption | exact gs_at))))))))) (by simp) rfl rfl ?_
  refine w_aload_n dX8_span_20 rfl ?_
  refine w_getf dX8_span_21 fl_X8_39 (by first | assumption | exact gs_at | (rw [gs_ne (by omega)]; (first | assumption | exact gs_at | (rw [gs_ne (by omega)]; (first | assumption | exact gs_at | (rw [gs_ne (by omega)]; (first | assumption | exact gs_at | (rw [gs_ne (by omega)]; (first | assumption | exact gs_at))))))))) rfl ?_
  refine w_ifN_le (tgt := 29) dX8_span_24 (by decide) (fun c_24 => ?_) (fun c_24 => ?_)
  · try simp (disch := omega) only [nI_b2, Decidable.not_not, nI_ltI, nI_leI, nI_eq, ge_iff_le, gt_iff_lt, ne_eq, Nat.not_lt, Nat.not_le] at c_24
    exact absurd c_24 (by omega)
  · try simp (disch := omega) only [nI_b2, Decidable.not_not, nI_ltI, nI_leI, nI_eq, ge_iff_le, gt_iff_lt, ne_eq, Nat.not_lt, Nat.not_le] at c_24
    refine w_iconst (v := nI 0) dX8_span_27 (by decide) ?_
    refine w_iret dX8_span_28 rfl (Nat.le_of_ble_eq_true rfl) (Nat.le_of_ble_eq_true rfl) ?_
    exact hQ
theorem mk_m_span {E : EV} {Q : OC → AH → Prop} {V : Nat} {th hi ac tp ba en at_ fa dp io hm_ we sh so : Int32} {mm : Nat → Int32} {T : ST} {sd : Int32} {G : AH}  {j mo : Nat} {D : LD} (hmo : mo < 2 ^ 30) (hj9 : j ≤ 400) (hAsk : AskC E D) (hD : WFD D) (hm0 : LwR mm D) (h3 : ∃ a : Nat → Int32, G.1 (V + 3) = some (aI 350 a)) (h6 : ∃ a : Nat → Int32, G.1 (V + 6) = some (aI 7 a)) (hV : G.1 V = some (mO V th hi ac tp ba en at_ fa dp io hm_ we sh so)) (hm : G.1 (V + 1) = some (aI 750 mm)) (hR : MoR mm T sd) (hB : Bd T)  (hQ : ∀ G1, AhP G V hi ac tp fa G1 → Q (.inl (some (.int (nI (spnN D T j mo 5))))) G1) : Wp E 59 0 0 kX8_span Q G (0, 0) 17 [.ref V, .int (nI j), .int (nI mo), .float 0, .float 0, .float 0, .float 0] [.int (nI 0), .ref V] := by
  obtain ⟨r0, r3, r4, r5, r6, r7, r9, r11, r12, r14, r20, r26, rL⟩ := id hR
  obtain ⟨b0, b1, b2_, b3, b4, b5, b6, b7, b8, b9, b10, b11, b12, b13, b14, b15, b16, b17, b18, b19⟩ := id hB
  have hV2 : (gs G V (mO V (nI 0) hi ac tp ba en at_ fa dp io hm_ we sh so)).1 V = some (mO V (nI 0) hi ac tp ba en at_ fa dp io hm_ we sh so) := gs_at
  have hm2 : (gs G V (mO V (nI 0) hi ac tp ba en at_ fa dp io hm_ we sh so)).1 (V + 1) = some (aI 750 mm) := (gs_ne (by omega)).trans hm
  refine w_putf dX8_span_17 fl_X8_39 (by first | assumption | exact gs_at | (rw [gs_ne (by omega)]; (first | assumption | exact gs_at | (rw [gs_ne (by omega)]; (first | assumption | exact gs_at | (rw [gs_ne (by omega)]; (first | assumption | exact gs_at | (rw [gs_ne (by omega)]; (first | assumption | exact gs_at))))))))) (by simp) rfl rfl ?_
  refine w_aload_n dX8_span_20 rfl ?_
  refine w_getf dX8_span_21 fl_X8_39 (by first | assumption | exact gs_at | (rw [gs_ne (by omega)]; (first | assumption | exact gs_at | (rw [gs_ne (by omega)]; (first | assumption | exact gs_at | (rw [gs_ne (by omega)]; (first | assumption | exact gs_at | (rw [gs_ne (by omega)]; (first | assumption | exact gs_at))))))))) rfl ?_
  refine w_ifN_le (tgt := 29) dX8_span_24 (by decide) (fun c_24 => ?_) (fun c_24 => ?_)
  · try simp (disch := omega) only [nI_b2, Decidable.not_not, nI_ltI, nI_leI, nI_eq, ge_iff_le, gt_iff_lt, ne_eq, Nat.not_lt, Nat.not_le] at c_24
    refine w_aload_n dX8_span_29 rfl ?_
    refine wV0d dX8_span_30 lk_X8_145 rfl (by first | assumption | exact gs_at | (rw [gs_ne (by omega)]; (first | assumption | exact gs_at | (rw [gs_ne (by omega)]; (first | assumption | exact gs_at | (rw [gs_ne (by omega)]; (first | assumption | exact gs_at | (rw [gs_ne (by omega)]; (first | assumption | exact gs_at))))))))) rfl rfl (m_aside3 (mm := mm) rfl hm h3 h6) (Nat.le_of_ble_eq_true rfl) (Nat.le_of_ble_eq_true rfl) (Nat.le_of_ble_eq_true rfl) (Nat.le_of_ble_eq_true rfl) (fun G8 h_30 => ?_)
    obtain ⟨a, b, hG8, ha8⟩ := h_30
    subst hG8
    refine w_iconst (v := (-1)) dX8_span_33 (by decide) ?_
    refine w_istore_3 dX8_span_34 rfl ?_
    refine w_iconst (v := nI 1) dX8_span_35 (by decide) ?_
    refine w_istore_4 dX8_span_36 rfl ?_
    have e1 : (gs (gs G (V + 3) (aI 350 a)) (V + 6) (aI 7 b)).1 (V + 1) = some (aI 750 mm) := (gs_ne (by omega)).trans ((gs_ne (by omega)).trans hm)
    rw [gs_id e1]
    exact ml_span hAsk hD hm0 hB hm ha8 hR hmo hj9 (fun b ba en at_ dp io hm_ we sh so => hQ _ ⟨a, b, ba, en, at_, dp, io, hm_, we, sh, so, rfl⟩) 7 0 b _ _ _ _ _ _ _ _ _ _ _ (by omega) (by omega)
  · try simp (disch := omega) only [nI_b2, Decidable.not_not, nI_ltI, nI_leI, nI_eq, ge_iff_le, gt_iff_lt, ne_eq, Nat.not_lt, Nat.not_le] at c_24
    exact absurd c_24 (by decide)
theorem m_span {E : EV} {V : Nat} {th hi ac tp ba en at_ fa dp io hm_ we sh so : Int32} {mm : Nat → Int32} {T : ST} {sd : Int32} {G : AH}  {x : Int32} {mo : Nat} (hV : G.1 V = some (mO V th hi ac tp ba en at_ fa dp io hm_ we sh so)) (hm : G.1 (V + 1) = some (aI 750 mm)) (hR : MoR mm T sd) (hB : Bd T)  {D : LD} (hmo : mo < 2 ^ 30) (hAsk : AskC E D) (hD : WFD D) (hm0 : LwR mm D) (h3 : ∃ a : Nat → Int32, G.1 (V + 3) = some (aI 350 a)) (h6 : ∃ a : Nat → Int32, G.1 (V + 6) = some (aI 7 a)) : Ci E 59 kX8_span [.ref V, .int x, .int (nI mo)] G (fun r G1 => r = (if xk1 (okN 0 (nI 400) x) = 0 then nI (spnN D T (ix x) mo 5) else nI 0) ∧ (xk1 (okN 0 (nI 400) x) = 0 → AhP G V hi ac tp fa G1) ∧ (¬ xk1 (okN 0 (nI 400) x) = 0 → G1 = (gs G V (mO V (nI (xk1 (okN 0 (nI 400) x))) hi ac tp ba en at_ fa dp io hm_ we sh so)))) := by
  refine Ct.intro rfl (by decide) [.ref V, .int x, .int (nI mo), .float 0, .float 0, .float 0, .float 0] (by simp [Value.category]) (Nat.le_of_ble_eq_true rfl) rfl ?_
  obtain ⟨r0, r3, r4, r5, r6, r7, r9, r11, r12, r14, r20, r26, rL⟩ := id hR
  obtain ⟨b0, b1, b2_, b3, b4, b5, b6, b7, b8, b9, b10, b11, b12, b13, b14, b15, b16, b17, b18, b19⟩ := id hB
  refine w_aload_n dX8_span_0 rfl ?_
  refine w_iload_n dX8_span_1 rfl ?_
  refine w_iconst (v := nI 0) dX8_span_2 (by decide) ?_
  refine w_sipush (v := nI 400) dX8_span_3 (by decide) ?_
  refine wS3u dX8_span_6 lk_X8_42 rfl (m_isIn) (Nat.le_of_ble_eq_true rfl) (Nat.le_of_ble_eq_true rfl) (Nat.le_of_ble_eq_true rfl) (Nat.le_of_ble_eq_true rfl) ?_
  refine w_ifN_ne (tgt := 16) dX8_span_9 (by decide) (fun c_9 => ?_) (fun c_9 => ?_)
  · try simp (disch := omega) only [nI_b2, Decidable.not_not, nI_ltI, nI_leI, nI_eq, ge_iff_le, gt_iff_lt, ne_eq, Nat.not_lt, Nat.not_le] at c_9
    refine w_iconst (v := nI 0) dX8_span_16 (by decide) ?_
    first
      | (have kx : xk1 (okN 0 (nI 400) x) = 1 := (by rw [xk1, if_neg (show ¬ okN 0 (nI 400) x from c_9)]); exact mr_m_span hV (by decide) ⟨_, rfl, by rw [kx]; rfl, fun e => absurd (kx.symm.trans e) (by decide), fun _ => by rw [kx]⟩)
      | (have kx : xk1 (okN 0 (nI 400) x) = 0 := (by rw [xk1, if_pos (show okN 0 (nI 400) x from c_9)]); obtain ⟨j, hj8, hj9, ej⟩ := in_L (a := 0) (n := 400) (by omega) (by omega) c_9; subst ej; exact mk_m_span hmo hj9 hAsk hD hm0 h3 h6 hV hm hR hB (fun G1 hG1 => ⟨_, rfl, by rw [kx, if_pos rfl, ix_nI (show j < 2 ^ 31 by omega)], fun _ => hG1, fun e => absurd kx e⟩))
  · try simp (disch := omega) only [nI_b2, Decidable.not_not, nI_ltI, nI_leI, nI_eq, ge_iff_le, gt_iff_lt, ne_eq, Nat.not_lt, Nat.not_le] at c_9
    refine w_iconst (v := nI 1) dX8_span_12 (by decide) ?_
    refine w_goto (tgt := 17) dX8_span_13 (by decide) ?_
    first
      | (have kx : xk1 (okN 0 (nI 400) x) = 1 := (by rw [xk1, if_neg (show ¬ okN 0 (nI 400) x from c_9)]); exact mr_m_span hV (by decide) ⟨_, rfl, by rw [kx]; rfl, fun e => absurd (kx.symm.trans e) (by decide), fun _ => by rw [kx]⟩)
      | (have kx : xk1 (okN 0 (nI 400) x) = 0 := (by rw [xk1, if_pos (show okN 0 (nI 400) x from c_9)]); obtain ⟨j, hj8, hj9, ej⟩ := in_L (a := 0) (n := 400) (by omega) (by omega) c_9; subst ej; exact mk_m_span hmo hj9 hAsk hD hm0 h3 h6 hV hm hR hB (fun G1 hG1 => ⟨_, rfl, by rw [kx, if_pos rfl, ix_nI (show j < 2 ^ 31 by omega)], fun _ => hG1, fun e => absurd kx e⟩))
