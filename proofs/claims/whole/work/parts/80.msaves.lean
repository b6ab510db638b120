/-! the model: what saves most -/
theorem and_not0 {s m : Nat} (hs : s < 2 ^ 31) (hm : m < 2 ^ 31) : (nI s &&& (nI m ^^^ (-1)) = nI 0) ↔ s &&& m = s := by
  have hb : ∀ i, (nI s &&& (nI m ^^^ (-1))).toBitVec.getLsbD i = (decide (i < 32) && s.testBit i && !m.testBit i) := by
    intro i
    rw [Int32.toBitVec_and, Int32.toBitVec_xor, nI_bv, nI_bv, show (-1 : Int32).toBitVec = BitVec.allOnes 32 from rfl]
    simp only [BitVec.getLsbD_and, BitVec.getLsbD_xor, BitVec.getLsbD_ofNat, BitVec.getLsbD_allOnes]
    by_cases h : i < 32
    · simp [h]
    · simp [h]
  constructor
  · intro h
    apply Nat.eq_of_testBit_eq
    intro i
    rw [Nat.testBit_and]
    by_cases hi : i < 32
    · have h1 := hb i
      rw [h] at h1
      have h0 : (nI 0).toBitVec.getLsbD i = false := by rw [nI_bv]; simp
      rw [h0] at h1
      simp [hi] at h1
      cases h2 : s.testBit i
      · simp
      · simp [h1 h2]
    · have h2 : s.testBit i = false := Nat.testBit_lt_two_pow (Nat.lt_of_lt_of_le hs (Nat.pow_le_pow_right (by decide) (by omega)))
      simp [h2]
  · intro h
    apply Int32.toBitVec_inj.mp
    apply BitVec.eq_of_getLsbD_eq
    intro i hi
    rw [hb i]
    have h0 : (nI 0).toBitVec.getLsbD i = false := by rw [nI_bv]; simp
    rw [h0]
    have h3 : (s &&& m).testBit i = s.testBit i := by rw [h]
    rw [Nat.testBit_and] at h3
    cases h2 : s.testBit i
    · simp
    · rw [h2] at h3
      simp at h3
      simp [h3]
theorem sub_may {T : ST} (hB : Bd T) {s : Nat} (hs : s < 4096) : (s &&& bitN (fun j => 0 < wrkN T j) (T 12 0) = s) ↔ (s &&& bitN (fun j => wrkN T j = 0) 12 = 0) := by
  have h12 := hB.1
  have hhi : ∀ i, 12 ≤ i → s.testBit i = false := fun i hi => Nat.testBit_lt_two_pow (Nat.lt_of_lt_of_le hs (Nat.pow_le_pow_right (n := 2) (by decide) hi))
  have hw : ∀ i, (i < T 12 0 ∧ 0 < wrkN T i) ↔ 0 < wrkN T i := fun i => ⟨fun h => h.2, fun h => ⟨Nat.lt_of_not_le (fun h2 => by have := wrk_0 hB h2; omega), h⟩⟩
  constructor
  · intro h
    apply Nat.eq_of_testBit_eq
    intro i
    rw [Nat.testBit_and, bitN_bit, Nat.zero_testBit]
    have h3 : (s &&& bitN (fun j => 0 < wrkN T j) (T 12 0)).testBit i = s.testBit i := by rw [h]
    rw [Nat.testBit_and, bitN_bit] at h3
    cases h2 : s.testBit i
    · simp
    · rw [h2] at h3
      have h4 : 0 < wrkN T i := by simp at h3; exact h3.2
      simp; omega
  · intro h
    apply Nat.eq_of_testBit_eq
    intro i
    rw [Nat.testBit_and, bitN_bit]
    have h3 : (s &&& bitN (fun j => wrkN T j = 0) 12).testBit i = false := by rw [h]; exact Nat.zero_testBit i
    rw [Nat.testBit_and, bitN_bit] at h3
    cases h2 : s.testBit i
    · simp
    · rw [h2] at h3
      have hi : i < 12 := Nat.lt_of_not_le (fun h5 => by rw [hhi i h5] at h2; cases h2)
      have h4 : ¬ wrkN T i = 0 := by simp [hi] at h3; exact h3
      have h5 := (hw i).mpr (by omega)
      simp [h5]
theorem svS_stop {ok : Nat → Prop} [DecidablePred ok] {v : Nat → Nat} {N : Nat} : ∀ j, (∀ s, N ≤ s → s < N + j → ¬ ok s) → svS ok v (N + j) = svS ok v N
  | 0, _ => rfl
  | j + 1, h => by
    rw [show N + (j + 1) = (N + j) + 1 by omega, svS, svS_stop j (fun s h1 h2 => h s h1 (by omega))]
    split
    · rfl
    · rw [if_neg (fun h2 => h (N + j) (by omega) (by omega) h2.1)]
theorem svS_v {ok : Nat → Prop} [DecidablePred ok] {v : Nat → Nat} (h0 : v 0 = 0) : ∀ s, v (svS ok v s).1 = (svS ok v s).2
  | 0 => h0
  | s + 1 => by
    rw [svS]
    split
    · exact svS_v h0 s
    · split
      · rfl
      · exact svS_v h0 s
theorem wrk_sb {T : ST} (hB : Bd T) (s : Nat) : smB (wrkN T) s (T 12 0) = sb12 (wrkN T) s := by
  rw [sb_eq, ← smB_cut (n := T 12 0) (fun i hi => wrk_0 hB hi) (12 - T 12 0), show T 12 0 + (12 - T 12 0) = 12 by have := hB.1; omega]
theorem svR_may {T : ST} (hB : Bd T) (wk : Nat) : svS (svP T wk) (sb12 (T 3)) (bitN (fun j => 0 < wrkN T j) (T 12 0) + 1) = svR T wk := by
  have hp := p2_12 hB.1
  have hl := bitN_lt (fun j => 0 < wrkN T j) (T 12 0)
  unfold svR
  have h := svS_stop (ok := svP T wk) (v := sb12 (T 3)) (N := bitN (fun j => 0 < wrkN T j) (T 12 0) + 1) (1 * 2 ^ T 12 0 - (bitN (fun j => 0 < wrkN T j) (T 12 0) + 1)) (fun s h1 h2 h3 => by
    have h4 := (sub_may hB (s := s) (by omega)).mpr h3.1
    have h5 := Nat.and_le_right (n := s) (m := bitN (fun j => 0 < wrkN T j) (T 12 0))
    omega)
  rw [← h]
  congr 1
  omega
theorem ml_sv1 {E : EV} {Q : OC → AH → Prop} {V : Nat} {th hi ac tp ba en at_ fa dp io hm_ we sh so : Int32} {mm : Nat → Int32} {T : ST} {sd : Int32} {G : AH} {wk mu : Nat} {x y z : Value} (hV : G.1 V = some (mO V th hi ac tp ba en at_ fa dp io hm_ we sh so)) (hm : G.1 (V + 1) = some (aI 750 mm)) (hR : MoR mm T sd) (hB : Bd T) (kk : Wp E 4 0 0 kX8_saves Q G (0, 0) 70 [.ref V, .int (nI wk), .int (nI mu), .int (nI (bitN (fun j => 0 < wrkN T j) (T 12 0))), .int (nI (T 12 0)), x, y, z] []) : ∀ (k i : Nat), T 12 0 - i < k → i ≤ T 12 0 → Wp E 4 0 0 kX8_saves Q G (0, 0) 33 [.ref V, .int (nI wk), .int (nI mu), .int (nI (bitN (fun j => 0 < wrkN T j) i)), .int (nI i), x, y, z] [] := by
  obtain ⟨r0, r3, r4, r5, r6, r7, r9, r11, r12, r14, r20, r26, rL⟩ := id hR
  obtain ⟨b0, b1, b2_, b3, b4, b5, b6, b7, b8, b9, b10, b11, b12, b13, b14, b15, b16, b17, b18, b19⟩ := id hB
  intro k
  induction k with
  | zero => intro i h; exact absurd h (by omega)
  | succ k ih =>
    intro i hk hi
    refine w_iload dX8_saves_33 rfl ?_
    refine w_aload_n dX8_saves_35 rfl ?_
    refine w_getf dX8_saves_36 fl_X8_7 (by first | assumption | exact gs_at | (rw [gs_ne (by omega)]; (first | assumption | exact gs_at | (rw [gs_ne (by omega)]; (first | assumption | exact gs_at | (rw [gs_ne (by omega)]; (first | assumption | exact gs_at | (rw [gs_ne (by omega)]; (first | assumption | exact gs_at))))))))) rfl ?_
    refine w_iconst (v := nI 3) dX8_saves_39 (by decide) ?_
    refine w_iaload dX8_saves_40 (by first | assumption | exact gs_at | (rw [gs_ne (by omega)]; (first | assumption | exact gs_at | (rw [gs_ne (by omega)]; (first | assumption | exact gs_at | (rw [gs_ne (by omega)]; (first | assumption | exact gs_at | (rw [gs_ne (by omega)]; (first | assumption | exact gs_at))))))))) (by first | assumption | exact vp_in_nI (by omega) (by omega) | exact vp_in_nI (by assumption) (by omega)) ?_
    rw [nI_clamp (by omega)]
    first | rw [r3] | rw [r4] | rw [r5] | rw [r6] | rw [r0] | rw [r11] | rw [r12] | rw [r7 _ (by omega)] | rw [r9 _ (by omega)] | rw [r14 _ (by omega)] | rw [r20 _ (by omega)] | rw [r26 _ _ (by omega) (by omega)] | skip
    refine w_icmp_ge (tgt := 70) dX8_saves_41 (by decide) (fun c_41 => ?_) (fun c_41 => ?_)
    · try simp (disch := omega) only [nI_b2, Decidable.not_not, nI_ltI, nI_leI, nI_eq, ge_iff_le, gt_iff_lt, ne_eq, Nat.not_lt, Nat.not_le] at c_41
      have e : i = T 12 0 := by omega
      subst e
      exact kk
    · try simp (disch := omega) only [nI_b2, Decidable.not_not, nI_ltI, nI_leI, nI_eq, ge_iff_le, gt_iff_lt, ne_eq, Nat.not_lt, Nat.not_le] at c_41
      refine w_iload_n dX8_saves_44 rfl ?_
      refine w_aload_n dX8_saves_45 rfl ?_
      refine w_iload dX8_saves_46 rfl ?_
      refine wV1u dX8_saves_48 lk_X8_234 rfl (by first | assumption | exact gs_at | (rw [gs_ne (by omega)]; (first | assumption | exact gs_at | (rw [gs_ne (by omega)]; (first | assumption | exact gs_at | (rw [gs_ne (by omega)]; (first | assumption | exact gs_at | (rw [gs_ne (by omega)]; (first | assumption | exact gs_at))))))))) rfl rfl (m_workOf hV hm hR hB (by omega)) (Nat.le_of_ble_eq_true rfl) (Nat.le_of_ble_eq_true rfl) (Nat.le_of_ble_eq_true rfl) (Nat.le_of_ble_eq_true rfl) ?_
      have hwr := wrk_le hB i
      refine w_ifN_le (tgt := 61) dX8_saves_51 (by decide) (fun c_51 => ?_) (fun c_51 => ?_)
      · try simp (disch := omega) only [nI_b2, Decidable.not_not, nI_ltI, nI_leI, nI_eq, ge_iff_le, gt_iff_lt, ne_eq, Nat.not_lt, Nat.not_le] at c_51
        refine w_iconst (v := nI 0) dX8_saves_61 (by decide) ?_
        first | refine w_iorN dX8_saves_62 ?_ | refine w_ior dX8_saves_62 ?_
        refine w_istore_3 dX8_saves_63 rfl ?_
        first | refine w_iinc_4 dX8_saves_64 (nI_inc _) rfl ?_ | refine w_iinc_4 dX8_saves_64 rfl rfl ?_
        refine w_goto (tgt := 33) dX8_saves_67 (by decide) ?_
        have hN := ih (i + 1) (by omega) (by omega)
        first
          | (rw [bitN_t (by omega)] at hN; exact hN)
          | (rw [bitN_f (by omega)] at hN; rw [Nat.or_zero]; exact hN)
      · try simp (disch := omega) only [nI_b2, Decidable.not_not, nI_ltI, nI_leI, nI_eq, ge_iff_le, gt_iff_lt, ne_eq, Nat.not_lt, Nat.not_le] at c_51
        refine w_iconst (v := nI 1) dX8_saves_54 (by decide) ?_
        refine w_iload dX8_saves_55 rfl ?_
        refine w_ishlN (by omega) (p2_lt (by omega)) dX8_saves_57 ?_
        refine w_goto (tgt := 62) dX8_saves_58 (by decide) ?_
        first | refine w_iorN dX8_saves_62 ?_ | refine w_ior dX8_saves_62 ?_
        refine w_istore_3 dX8_saves_63 rfl ?_
        first | refine w_iinc_4 dX8_saves_64 (nI_inc _) rfl ?_ | refine w_iinc_4 dX8_saves_64 rfl rfl ?_
        refine w_goto (tgt := 33) dX8_saves_67 (by decide) ?_
        have hN := ih (i + 1) (by omega) (by omega)
        first
          | (rw [bitN_t (by omega)] at hN; exact hN)
          | (rw [bitN_f (by omega)] at hN; rw [Nat.or_zero]; exact hN)
theorem ml_sv2 {E : EV} {Q : OC → AH → Prop} {V : Nat} {th hi ac tp ba en at_ fa dp io hm_ we sh so : Int32} {mm : Nat → Int32} {T : ST} {sd : Int32} {G : AH} {wk mu M s : Nat} {f : Int32} (hV : G.1 V = some (mO V th hi ac tp ba en at_ fa dp io hm_ we sh so)) (hm : G.1 (V + 1) = some (aI 750 mm)) (hR : MoR mm T sd) (hB : Bd T) (hs : s < 2 ^ 31) (kk : Wp E 4 0 0 kX8_saves Q G (0, 0) 157 [.ref V, .int (nI wk), .int (nI mu), .int (nI M), .int f, .int (nI s), .int (nI (smB (wrkN T) s (T 12 0))), .int (nI (T 12 0))] []) : ∀ (k i : Nat), T 12 0 - i < k → i ≤ T 12 0 → Wp E 4 0 0 kX8_saves Q G (0, 0) 115 [.ref V, .int (nI wk), .int (nI mu), .int (nI M), .int f, .int (nI s), .int (nI (smB (wrkN T) s i)), .int (nI i)] [] := by
  obtain ⟨r0, r3, r4, r5, r6, r7, r9, r11, r12, r14, r20, r26, rL⟩ := id hR
  obtain ⟨b0, b1, b2_, b3, b4, b5, b6, b7, b8, b9, b10, b11, b12, b13, b14, b15, b16, b17, b18, b19⟩ := id hB
  intro k
  induction k with
  | zero => intro i h; exact absurd h (by omega)
  | succ k ih =>
    intro i hk hi
    refine w_iload dX8_saves_115 rfl ?_
    refine w_aload_n dX8_saves_117 rfl ?_
    refine w_getf dX8_saves_118 fl_X8_7 (by first | assumption | exact gs_at | (rw [gs_ne (by omega)]; (first | assumption | exact gs_at | (rw [gs_ne (by omega)]; (first | assumption | exact gs_at | (rw [gs_ne (by omega)]; (first | assumption | exact gs_at | (rw [gs_ne (by omega)]; (first | assumption | exact gs_at))))))))) rfl ?_
    refine w_iconst (v := nI 3) dX8_saves_121 (by decide) ?_
    refine w_iaload dX8_saves_122 (by first | assumption | exact gs_at | (rw [gs_ne (by omega)]; (first | assumption | exact gs_at | (rw [gs_ne (by omega)]; (first | assumption | exact gs_at | (rw [gs_ne (by omega)]; (first | assumption | exact gs_at | (rw [gs_ne (by omega)]; (first | assumption | exact gs_at))))))))) (by first | assumption | exact vp_in_nI (by omega) (by omega) | exact vp_in_nI (by assumption) (by omega)) ?_
    rw [nI_clamp (by omega)]
    first | rw [r3] | rw [r4] | rw [r5] | rw [r6] | rw [r0] | rw [r11] | rw [r12] | rw [r7 _ (by omega)] | rw [r9 _ (by omega)] | rw [r14 _ (by omega)] | rw [r20 _ (by omega)] | rw [r26 _ _ (by omega) (by omega)] | skip
    refine w_icmp_ge (tgt := 157) dX8_saves_123 (by decide) (fun c_123 => ?_) (fun c_123 => ?_)
    · try simp (disch := omega) only [nI_b2, Decidable.not_not, nI_ltI, nI_leI, nI_eq, ge_iff_le, gt_iff_lt, ne_eq, Nat.not_lt, Nat.not_le] at c_123
      have e : i = T 12 0 := by omega
      subst e
      exact kk
    · try simp (disch := omega) only [nI_b2, Decidable.not_not, nI_ltI, nI_leI, nI_eq, ge_iff_le, gt_iff_lt, ne_eq, Nat.not_lt, Nat.not_le] at c_123
      refine w_iload dX8_saves_126 rfl ?_
      refine w_iload dX8_saves_128 rfl ?_
      refine w_iload dX8_saves_130 rfl ?_
      refine wS2u dX8_saves_132 lk_X8_240 rfl (m_isOf hs (by omega)) (Nat.le_of_ble_eq_true rfl) (Nat.le_of_ble_eq_true rfl) (Nat.le_of_ble_eq_true rfl) (Nat.le_of_ble_eq_true rfl) ?_
      refine w_ifN_eq (tgt := 147) dX8_saves_135 (by decide) (fun c_135 => ?_) (fun c_135 => ?_)
      · try simp (disch := omega) only [nI_b2, Decidable.not_not, nI_ltI, nI_leI, nI_eq, ge_iff_le, gt_iff_lt, ne_eq, Nat.not_lt, Nat.not_le] at c_135
        refine w_iconst (v := nI 0) dX8_saves_147 (by decide) ?_
        first | refine w_iaddN dX8_saves_148 ?_ | refine w_iadd dX8_saves_148 ?_
        refine w_istore_6 dX8_saves_149 rfl ?_
        first | refine w_iinc_7 dX8_saves_151 (nI_inc _) rfl ?_ | refine w_iinc_7 dX8_saves_151 rfl rfl ?_
        refine w_goto (tgt := 115) dX8_saves_154 (by decide) ?_
        have hN := ih (i + 1) (by omega) (by omega)
        rw [smB] at hN
        first
          | (rw [if_pos c_135] at hN; exact hN)
          | (rw [if_neg c_135] at hN; exact hN)
      · try simp (disch := omega) only [nI_b2, Decidable.not_not, nI_ltI, nI_leI, nI_eq, ge_iff_le, gt_iff_lt, ne_eq, Nat.not_lt, Nat.not_le] at c_135
        refine w_aload_n dX8_saves_138 rfl ?_
        refine w_iload dX8_saves_139 rfl ?_
        refine wV1u dX8_saves_141 lk_X8_234 rfl (by first | assumption | exact gs_at | (rw [gs_ne (by omega)]; (first | assumption | exact gs_at | (rw [gs_ne (by omega)]; (first | assumption | exact gs_at | (rw [gs_ne (by omega)]; (first | assumption | exact gs_at | (rw [gs_ne (by omega)]; (first | assumption | exact gs_at))))))))) rfl rfl (m_workOf hV hm hR hB (by omega)) (Nat.le_of_ble_eq_true rfl) (Nat.le_of_ble_eq_true rfl) (Nat.le_of_ble_eq_true rfl) (Nat.le_of_ble_eq_true rfl) ?_
        refine w_goto (tgt := 148) dX8_saves_144 (by decide) ?_
        first | refine w_iaddN dX8_saves_148 ?_ | refine w_iadd dX8_saves_148 ?_
        refine w_istore_6 dX8_saves_149 rfl ?_
        first | refine w_iinc_7 dX8_saves_151 (nI_inc _) rfl ?_ | refine w_iinc_7 dX8_saves_151 rfl rfl ?_
        refine w_goto (tgt := 115) dX8_saves_154 (by decide) ?_
        have hN := ih (i + 1) (by omega) (by omega)
        rw [smB] at hN
        first
          | (rw [if_pos c_135] at hN; exact hN)
          | (rw [if_neg c_135] at hN; exact hN)
theorem ml_sv {E : EV} {Q : OC → AH → Prop} {V : Nat} {th hi ac tp ba en at_ fa dp io hm_ we sh so : Int32} {mm : Nat → Int32} {T : ST} {sd : Int32} {G : AH} {wk mu M : Nat} (hV : G.1 V = some (mO V th hi ac tp ba en at_ fa dp io hm_ we sh so)) (hm : G.1 (V + 1) = some (aI 750 mm)) (hR : MoR mm T sd) (hB : Bd T) (hwk : wk < 2 ^ 30) (hmu : mu < 2 ^ 30) (hM : M = bitN (fun j => 0 < wrkN T j) (T 12 0)) (hQ : Q (.inl (some (.int (nI (if mu = 0 then (svR T wk).1 else (svR T wk).2))))) G) : ∀ (k i : Nat), M + 1 - i < k → i ≤ M + 1 → 1 ≤ i → ∀ x y : Value, Wp E 4 0 0 kX8_saves Q G (0, 0) 76 [.ref V, .int (nI wk), .int (nI mu), .int (nI M), .int (nI (svS (svP T wk) (sb12 (T 3)) i).1), .int (nI i), x, y] [] := by
  obtain ⟨r0, r3, r4, r5, r6, r7, r9, r11, r12, r14, r20, r26, rL⟩ := id hR
  obtain ⟨b0, b1, b2_, b3, b4, b5, b6, b7, b8, b9, b10, b11, b12, b13, b14, b15, b16, b17, b18, b19⟩ := id hB
  have hMl : M < 4096 := by rw [hM]; exact bitN_12 _ b0
  have hv : ∀ s, sb12 (T 3) s ≤ 1188 := fun s => Nat.le_trans (sb12_le b4 s) (by omega)
  have hwr : ∀ s, sb12 (wrkN T) s ≤ 276 := fun s => Nat.le_trans (sb12_le (wrk_le hB) s) (by omega)
  intro k
  induction k with
  | zero => intro i h; exact absurd h (by omega)
  | succ k ih =>
    intro i hk hi4 hi1 x y
    have hN := ih (i + 1)
    have hst : svS (svP T wk) (sb12 (T 3)) (i + 1) = if svP T wk i ∧ (svS (svP T wk) (sb12 (T 3)) i).2 < sb12 (T 3) i then (i, sb12 (T 3) i) else svS (svP T wk) (sb12 (T 3)) i := by rw [svS, if_neg (by omega)]
    have hsl := svS_le (svP T wk) hv i
    have hsv := svS_v (ok := svP T wk) (v := sb12 (T 3)) (by rw [sb_eq]; simp [smB]) i
    have hvi := hv i; have hvf := hv (svS (svP T wk) (sb12 (T 3)) i).1; have hwi := hwr i
    have hsm := wrk_sb hB i
    refine w_iload dX8_saves_76 rfl ?_
    refine w_iload_n dX8_saves_78 rfl ?_
    refine w_icmp_gt (tgt := 173) dX8_saves_79 (by decide) (fun c_79 => ?_) (fun c_79 => ?_)
    · try simp (disch := omega) only [nI_ltI, nI_leI, gt_iff_lt, Nat.not_lt, Nat.not_le] at c_79
      have e : i = M + 1 := by omega
      subst e
      subst hM
      rw [svR_may hB]
      have hsvR : sb12 (T 3) (svR T wk).1 = (svR T wk).2 := svS_v (ok := svP T wk) (v := sb12 (T 3)) (by rw [sb_eq]; simp [smB]) _
      have hsvl : (svR T wk).1 ≤ 1 * 2 ^ T 12 0 := (svS_le (svP T wk) hv _).2
      have hp2 := p2_12 b0
      refine w_iload_n dX8_saves_173 rfl ?_
      refine w_ifN_eq (tgt := 186) dX8_saves_174 (by decide) (fun c_174 => ?_) (fun c_174 => ?_)
      · try simp (disch := omega) only [nI_ltI, nI_leI, gt_iff_lt, Nat.not_lt, Nat.not_le] at c_174
        rw [nI_eq (by omega) (by omega)] at c_174
        refine w_iload dX8_saves_186 rfl ?_
        refine w_iret dX8_saves_188 rfl (Nat.le_of_ble_eq_true rfl) (Nat.le_of_ble_eq_true rfl) ?_
        first
          | (rw [if_pos (by omega)] at hQ; exact hQ)
          | (rw [if_neg (by omega)] at hQ; exact hQ)
      · try simp (disch := omega) only [nI_ltI, nI_leI, gt_iff_lt, Nat.not_lt, Nat.not_le] at c_174
        rw [nI_eq (by omega) (by omega)] at c_174
        refine w_aload_n dX8_saves_177 rfl ?_
        refine w_iload dX8_saves_178 rfl ?_
        refine wV1u dX8_saves_180 lk_X8_256 rfl (by first | assumption | exact gs_at | (rw [gs_ne (by omega)]; (first | assumption | exact gs_at | (rw [gs_ne (by omega)]; (first | assumption | exact gs_at | (rw [gs_ne (by omega)]; (first | assumption | exact gs_at | (rw [gs_ne (by omega)]; (first | assumption | exact gs_at))))))))) rfl rfl (m_valueOf hV hm hR hB (by omega)) (Nat.le_of_ble_eq_true rfl) (Nat.le_of_ble_eq_true rfl) (Nat.le_of_ble_eq_true rfl) (Nat.le_of_ble_eq_true rfl) ?_
        rw [vs_eq hB, hsvR]
        refine w_goto (tgt := 188) dX8_saves_183 (by decide) ?_
        refine w_iret dX8_saves_188 rfl (Nat.le_of_ble_eq_true rfl) (Nat.le_of_ble_eq_true rfl) ?_
        first
          | (rw [if_pos (by omega)] at hQ; exact hQ)
          | (rw [if_neg (by omega)] at hQ; exact hQ)
    · try simp (disch := omega) only [nI_ltI, nI_leI, gt_iff_lt, Nat.not_lt, Nat.not_le] at c_79
      have hile : i ≤ M := by omega
      have han := and_not0 (s := i) (m := M) (by omega) (by omega)
      have hsb := sub_may hB (s := i) (by omega)
      rw [← hM] at hsb
      refine w_iload dX8_saves_82 rfl ?_
      refine w_iload_n dX8_saves_84 rfl ?_
      refine w_iconst (v := (-1)) dX8_saves_85 (by decide) ?_
      refine w_ixor dX8_saves_86 ?_
      refine w_iand dX8_saves_87 ?_
      refine w_ifN_ne (tgt := 167) dX8_saves_88 (by decide) (fun c_88 => ?_) (fun c_88 => ?_)
      · try simp (disch := omega) only [nI_ltI, nI_leI, gt_iff_lt, Nat.not_lt, Nat.not_le] at c_88
        have hns : ¬ i &&& bitN (fun j => wrkN T j = 0) 12 = 0 := fun h => c_88 (han.mpr (hsb.mpr h))
        first | refine w_iinc_5 dX8_saves_167 (nI_inc _) rfl ?_ | refine w_iinc_5 dX8_saves_167 rfl rfl ?_
        refine w_goto (tgt := 76) dX8_saves_170 (by decide) ?_
        first
          | (have h9 := hN (by omega) (by omega) (by omega) x y; rw [hst, if_neg (fun h => hns h.1.1)] at h9; exact h9)
          | (have h9 := hN (by omega) (by omega) (by omega) x y; rw [hst, if_neg (fun h => by have h1 := h.2; omega)] at h9; exact h9)
      · try simp (disch := omega) only [nI_ltI, nI_leI, gt_iff_lt, Nat.not_lt, Nat.not_le] at c_88
        have hsub : i &&& bitN (fun j => wrkN T j = 0) 12 = 0 := hsb.mp (han.mp c_88)
        refine w_aload_n dX8_saves_91 rfl ?_
        refine w_iload dX8_saves_92 rfl ?_
        refine wV1u dX8_saves_94 lk_X8_256 rfl (by first | assumption | exact gs_at | (rw [gs_ne (by omega)]; (first | assumption | exact gs_at | (rw [gs_ne (by omega)]; (first | assumption | exact gs_at | (rw [gs_ne (by omega)]; (first | assumption | exact gs_at | (rw [gs_ne (by omega)]; (first | assumption | exact gs_at))))))))) rfl rfl (m_valueOf hV hm hR hB (by omega)) (Nat.le_of_ble_eq_true rfl) (Nat.le_of_ble_eq_true rfl) (Nat.le_of_ble_eq_true rfl) (Nat.le_of_ble_eq_true rfl) ?_
        rw [vs_eq hB]
        refine w_aload_n dX8_saves_97 rfl ?_
        refine w_iload dX8_saves_98 rfl ?_
        refine wV1u dX8_saves_100 lk_X8_256 rfl (by first | assumption | exact gs_at | (rw [gs_ne (by omega)]; (first | assumption | exact gs_at | (rw [gs_ne (by omega)]; (first | assumption | exact gs_at | (rw [gs_ne (by omega)]; (first | assumption | exact gs_at | (rw [gs_ne (by omega)]; (first | assumption | exact gs_at))))))))) rfl rfl (m_valueOf hV hm hR hB (by omega)) (Nat.le_of_ble_eq_true rfl) (Nat.le_of_ble_eq_true rfl) (Nat.le_of_ble_eq_true rfl) (Nat.le_of_ble_eq_true rfl) ?_
        rw [vs_eq hB, hsv]
        refine w_icmp_gt (tgt := 109) dX8_saves_103 (by decide) (fun c_103 => ?_) (fun c_103 => ?_)
        · try simp (disch := omega) only [nI_ltI, nI_leI, gt_iff_lt, Nat.not_lt, Nat.not_le] at c_103
          refine w_iconst (v := nI 0) dX8_saves_109 (by decide) ?_
          refine w_istore_6 dX8_saves_110 rfl ?_
          refine w_iconst (v := nI 0) dX8_saves_112 (by decide) ?_
          refine w_istore_7 dX8_saves_113 rfl ?_
          refine ml_sv2 hV hm hR hB (by omega) ?_ (T 12 0 + 1) 0 (by omega) (by omega)
          refine w_iload dX8_saves_157 rfl ?_
          refine w_iload_n dX8_saves_159 rfl ?_
          refine w_icmp_gt (tgt := 167) dX8_saves_160 (by decide) (fun c_160 => ?_) (fun c_160 => ?_)
          · try simp (disch := omega) only [nI_ltI, nI_leI, gt_iff_lt, Nat.not_lt, Nat.not_le] at c_160
            first | refine w_iinc_5 dX8_saves_167 (nI_inc _) rfl ?_ | refine w_iinc_5 dX8_saves_167 rfl rfl ?_
            refine w_goto (tgt := 76) dX8_saves_170 (by decide) ?_
            first
              | (have h9 := hN (by omega) (by omega) (by omega) (.int (nI (smB (wrkN T) i (T 12 0)))) (.int (nI (T 12 0))); rw [hst, if_pos ⟨⟨hsub, by omega⟩, by omega⟩] at h9; exact h9)
              | (have h9 := hN (by omega) (by omega) (by omega) (.int (nI (smB (wrkN T) i (T 12 0)))) (.int (nI (T 12 0))); rw [hst, if_neg (fun h => by have h1 := h.1.2; omega)] at h9; exact h9)
          · try simp (disch := omega) only [nI_ltI, nI_leI, gt_iff_lt, Nat.not_lt, Nat.not_le] at c_160
            refine w_iload dX8_saves_163 rfl ?_
            refine w_istore_4 dX8_saves_165 rfl ?_
            first | refine w_iinc_5 dX8_saves_167 (nI_inc _) rfl ?_ | refine w_iinc_5 dX8_saves_167 rfl rfl ?_
            refine w_goto (tgt := 76) dX8_saves_170 (by decide) ?_
            first
              | (have h9 := hN (by omega) (by omega) (by omega) (.int (nI (smB (wrkN T) i (T 12 0)))) (.int (nI (T 12 0))); rw [hst, if_pos ⟨⟨hsub, by omega⟩, by omega⟩] at h9; exact h9)
              | (have h9 := hN (by omega) (by omega) (by omega) (.int (nI (smB (wrkN T) i (T 12 0)))) (.int (nI (T 12 0))); rw [hst, if_neg (fun h => by have h1 := h.1.2; omega)] at h9; exact h9)
        · try simp (disch := omega) only [nI_ltI, nI_leI, gt_iff_lt, Nat.not_lt, Nat.not_le] at c_103
          refine w_goto (tgt := 167) dX8_saves_106 (by decide) ?_
          first | refine w_iinc_5 dX8_saves_167 (nI_inc _) rfl ?_ | refine w_iinc_5 dX8_saves_167 rfl rfl ?_
          refine w_goto (tgt := 76) dX8_saves_170 (by decide) ?_
          first
            | (have h9 := hN (by omega) (by omega) (by omega) x y; rw [hst, if_neg (fun h => hns h.1.1)] at h9; exact h9)
            | (have h9 := hN (by omega) (by omega) (by omega) x y; rw [hst, if_neg (fun h => by have h1 := h.2; omega)] at h9; exact h9)
theorem mr_m_saves {E : EV} {Q : OC → AH → Prop} {V : Nat} {th hi ac tp ba en at_ fa dp io hm_ we sh so : Int32} {G : AH} {x : Int32} {mu : Nat} {j : Nat} (hV : G.1 V = some (mO V th hi ac tp ba en at_ fa dp io hm_ we sh so)) (hj : 0 < j ∧ j < 4) (hQ : Q (.inl (some (.int (nI 0)))) (gs G V (mO V (nI j) hi ac tp ba en at_ fa dp io hm_ we sh so))) : Wp E 4 0 0 kX8_saves Q G (0, 0) 16 [.ref V, .int x, .int (nI mu), .float 0, .float 0, .float 0, .float 0, .float 0] [.int (nI j), .ref V] := by
  refine w_putf dX8_saves_16 fl_X8_39 (by first | assumption | exact gs_at | (rw [gs_ne (by omega)]; (first | assumption | exact gs_at | (rw [gs_ne (by omega)]; (first | assumption | exact gs_at | (rw [gs_ne (by omega)]; (first | assumption | exact gs_at | (rw [gs_ne (by omega)]; (first | assumption | exact gs_at))))))))) (by simp) rfl rfl ?_
  refine w_aload_n dX8_saves_19 rfl ?_
  refine w_getf dX8_saves_20 fl_X8_39 (by first | assumption | exact gs_at | (rw [gs_ne (by omega)]; (first | assumption | exact gs_at | (rw [gs_ne (by omega)]; (first | assumption | exact gs_at | (rw [gs_ne (by omega)]; (first | assumption | exact gs_at | (rw [gs_ne (by omega)]; (first | assumption | exact gs_at))))))))) rfl ?_
  refine w_ifN_le (tgt := 28) dX8_saves_23 (by decide) (fun c_23 => ?_) (fun c_23 => ?_)
  · try simp (disch := omega) only [nI_b2, Decidable.not_not, nI_ltI, nI_leI, nI_eq, ge_iff_le, gt_iff_lt, ne_eq, Nat.not_lt, Nat.not_le] at c_23
    exact absurd c_23 (by omega)
  · try simp (disch := omega) only [nI_b2, Decidable.not_not, nI_ltI, nI_leI, nI_eq, ge_iff_le, gt_iff_lt, ne_eq, Nat.not_lt, Nat.not_le] at c_23
    refine w_iconst (v := nI 0) dX8_saves_26 (by decide) ?_
    refine w_iret dX8_saves_27 rfl (Nat.le_of_ble_eq_true rfl) (Nat.le_of_ble_eq_true rfl) ?_
    exact hQ
theorem mk_m_saves {E : EV} {Q : OC → AH → Prop} {V : Nat} {th hi ac tp ba en at_ fa dp io hm_ we sh so : Int32} {mm : Nat → Int32} {T : ST} {sd : Int32} {G : AH} {wk mu : Nat} (hwk : wk ≤ 99) (hmu : mu < 2 ^ 30) (hV : G.1 V = some (mO V th hi ac tp ba en at_ fa dp io hm_ we sh so)) (hm : G.1 (V + 1) = some (aI 750 mm)) (hR : MoR mm T sd) (hB : Bd T) (hQ : Q (.inl (some (.int (nI (if mu = 0 then (svR T wk).1 else (svR T wk).2))))) (gs G V (mO V (nI 0) hi ac tp ba en at_ fa dp io hm_ we sh so))) : Wp E 4 0 0 kX8_saves Q G (0, 0) 16 [.ref V, .int (nI wk), .int (nI mu), .float 0, .float 0, .float 0, .float 0, .float 0] [.int (nI 0), .ref V] := by
  obtain ⟨r0, r3, r4, r5, r6, r7, r9, r11, r12, r14, r20, r26, rL⟩ := id hR
  obtain ⟨b0, b1, b2_, b3, b4, b5, b6, b7, b8, b9, b10, b11, b12, b13, b14, b15, b16, b17, b18, b19⟩ := id hB
  have hV2 : (gs G V (mO V (nI 0) hi ac tp ba en at_ fa dp io hm_ we sh so)).1 V = some (mO V (nI 0) hi ac tp ba en at_ fa dp io hm_ we sh so) := gs_at
  have hm2 : (gs G V (mO V (nI 0) hi ac tp ba en at_ fa dp io hm_ we sh so)).1 (V + 1) = some (aI 750 mm) := (gs_ne (by omega)).trans hm
  refine w_putf dX8_saves_16 fl_X8_39 (by first | assumption | exact gs_at | (rw [gs_ne (by omega)]; (first | assumption | exact gs_at | (rw [gs_ne (by omega)]; (first | assumption | exact gs_at | (rw [gs_ne (by omega)]; (first | assumption | exact gs_at | (rw [gs_ne (by omega)]; (first | assumption | exact gs_at))))))))) (by simp) rfl rfl ?_
  refine w_aload_n dX8_saves_19 rfl ?_
  refine w_getf dX8_saves_20 fl_X8_39 (by first | assumption | exact gs_at | (rw [gs_ne (by omega)]; (first | assumption | exact gs_at | (rw [gs_ne (by omega)]; (first | assumption | exact gs_at | (rw [gs_ne (by omega)]; (first | assumption | exact gs_at | (rw [gs_ne (by omega)]; (first | assumption | exact gs_at))))))))) rfl ?_
  refine w_ifN_le (tgt := 28) dX8_saves_23 (by decide) (fun c_23 => ?_) (fun c_23 => ?_)
  · try simp (disch := omega) only [nI_b2, Decidable.not_not, nI_ltI, nI_leI, nI_eq, ge_iff_le, gt_iff_lt, ne_eq, Nat.not_lt, Nat.not_le] at c_23
    refine w_iconst (v := nI 0) dX8_saves_28 (by decide) ?_
    refine w_istore_3 dX8_saves_29 rfl ?_
    refine w_iconst (v := nI 0) dX8_saves_30 (by decide) ?_
    refine w_istore_4 dX8_saves_31 rfl ?_
    refine ml_sv1 hV2 hm2 hR hB ?_ (T 12 0 + 1) 0 (by omega) (by omega)
    refine w_iconst (v := nI 0) dX8_saves_70 (by decide) ?_
    refine w_istore_4 dX8_saves_71 rfl ?_
    refine w_iconst (v := nI 1) dX8_saves_73 (by decide) ?_
    refine w_istore_5 dX8_saves_74 rfl ?_
    exact ml_sv hV2 hm2 hR hB (by omega) hmu rfl hQ (bitN (fun j => 0 < wrkN T j) (T 12 0) + 1 + 1) 1 (by omega) (by omega) (by omega) (.float 0) (.float 0)
  · try simp (disch := omega) only [nI_b2, Decidable.not_not, nI_ltI, nI_leI, nI_eq, ge_iff_le, gt_iff_lt, ne_eq, Nat.not_lt, Nat.not_le] at c_23
    exact absurd c_23 (by decide)
theorem m_saves {E : EV} {V : Nat} {th hi ac tp ba en at_ fa dp io hm_ we sh so : Int32} {mm : Nat → Int32} {T : ST} {sd : Int32} {G : AH} {x : Int32} {mu : Nat} (hV : G.1 V = some (mO V th hi ac tp ba en at_ fa dp io hm_ we sh so)) (hm : G.1 (V + 1) = some (aI 750 mm)) (hR : MoR mm T sd) (hB : Bd T) (hmu : mu < 2 ^ 30) : Cu E 4 kX8_saves [.ref V, .int x, .int (nI mu)] G (.int (if xk1 (okN 0 (nI 99) x) = 0 then nI (if mu = 0 then (svR T (ix x)).1 else (svR T (ix x)).2) else nI 0)) (gs G V (mO V (nI (xk1 (okN 0 (nI 99) x))) hi ac tp ba en at_ fa dp io hm_ we sh so)) := by
  refine Ct.intro rfl (by decide) [.ref V, .int x, .int (nI mu), .float 0, .float 0, .float 0, .float 0, .float 0] (by simp [Value.category]) (Nat.le_of_ble_eq_true rfl) rfl ?_
  obtain ⟨r0, r3, r4, r5, r6, r7, r9, r11, r12, r14, r20, r26, rL⟩ := id hR
  obtain ⟨b0, b1, b2_, b3, b4, b5, b6, b7, b8, b9, b10, b11, b12, b13, b14, b15, b16, b17, b18, b19⟩ := id hB
  refine w_aload_n dX8_saves_0 rfl ?_
  refine w_iload_n dX8_saves_1 rfl ?_
  refine w_iconst (v := nI 0) dX8_saves_2 (by decide) ?_
  refine w_bipush (v := nI 99) dX8_saves_3 (by decide) ?_
  refine wS3u dX8_saves_5 lk_X8_42 rfl (m_isIn) (Nat.le_of_ble_eq_true rfl) (Nat.le_of_ble_eq_true rfl) (Nat.le_of_ble_eq_true rfl) (Nat.le_of_ble_eq_true rfl) ?_
  refine w_ifN_ne (tgt := 15) dX8_saves_8 (by decide) (fun c_8 => ?_) (fun c_8 => ?_)
  · try simp (disch := omega) only [nI_b2, Decidable.not_not, nI_ltI, nI_leI, nI_eq, ge_iff_le, gt_iff_lt, ne_eq, Nat.not_lt, Nat.not_le] at c_8
    refine w_iconst (v := nI 0) dX8_saves_15 (by decide) ?_
    first
      | (have kx : xk1 (okN 0 (nI 99) x) = 1 := (by rw [xk1, if_neg c_8]); exact mr_m_saves hV (by decide) ⟨by rw [kx]; rfl, by rw [kx]⟩)
      | (have kx : xk1 (okN 0 (nI 99) x) = 0 := (by rw [xk1, if_pos c_8]); obtain ⟨wk, hw8, hw9, e⟩ := in_L (a := 0) (n := 99) (by omega) (by omega) c_8; subst e; exact mk_m_saves hw9 hmu hV hm hR hB ⟨by rw [kx, if_pos rfl, ix_nI (by omega)], by rw [kx]⟩)
  · try simp (disch := omega) only [nI_b2, Decidable.not_not, nI_ltI, nI_leI, nI_eq, ge_iff_le, gt_iff_lt, ne_eq, Nat.not_lt, Nat.not_le] at c_8
    refine w_iconst (v := nI 1) dX8_saves_11 (by decide) ?_
    refine w_goto (tgt := 16) dX8_saves_12 (by decide) ?_
    first
      | (have kx : xk1 (okN 0 (nI 99) x) = 1 := (by rw [xk1, if_neg c_8]); exact mr_m_saves hV (by decide) ⟨by rw [kx]; rfl, by rw [kx]⟩)
      | (have kx : xk1 (okN 0 (nI 99) x) = 0 := (by rw [xk1, if_pos c_8]); obtain ⟨wk, hw8, hw9, e⟩ := in_L (a := 0) (n := 99) (by omega) (by omega) c_8; subst e; exact mk_m_saves hw9 hmu hV hm hR hB ⟨by rw [kx, if_pos rfl, ix_nI (by omega)], by rw [kx]⟩)
