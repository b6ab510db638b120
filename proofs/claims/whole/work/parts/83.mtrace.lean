/-! the model: traces, where to look -/
theorem bitN_no {p : Nat → Prop} [DecidablePred p] : ∀ n, (∀ i, i < n → ¬ p i) → bitN p n = 0
  | 0, _ => rfl
  | n + 1, h => by rw [bitN_f (h n (Nat.lt_succ_self n)), bitN_no n (fun i hi => h i (by omega))]
theorem ml_passing {E : EV} {Q : OC → AH → Prop} {V t : Nat} {th hi ac tp ba en at_ fa dp io hm_ we sh so : Int32} {G : AH} {a : Nat → Int32} {r : Nat} (hV : G.1 V = some (mO V th hi ac tp ba en at_ fa dp io hm_ we sh so)) (hA : G.1 (V + 8) = some (aZ 36 a)) (ha : ∀ w, w < 36 → a w = nI (b2 (ftP w t))) (hr : r < 6) (hQ : Q (.inl (some (.int (nI (wyN t (1 * 2 ^ r) 36))))) G) : ∀ (k i : Nat), 36 - i < k → i ≤ 36 → Wp E 2 0 0 kX8_passing Q G (0, 0) 4 [.ref V, .int (nI r), .int (nI (wyN t (1 * 2 ^ r) i)), .int (nI i)] [] := by
  intro k
  induction k with
  | zero => intro i h; exact absurd h (by omega)
  | succ k ih =>
    intro i hk hi4
    refine w_iload_n dX8_passing_4 rfl ?_
    refine w_bipush (v := nI 36) dX8_passing_5 (by decide) ?_
    refine w_icmp_ge (tgt := 41) dX8_passing_7 (by decide) (fun c_7 => ?_) (fun c_7 => ?_)
    · try simp (disch := omega) only [nI_b2, Decidable.not_not, nI_ltI, nI_leI, nI_eq, ge_iff_le, gt_iff_lt, ne_eq, Nat.not_lt, Nat.not_le] at c_7
      refine w_iload_n dX8_passing_41 rfl ?_
      refine w_iret dX8_passing_42 rfl (Nat.le_of_ble_eq_true rfl) (Nat.le_of_ble_eq_true rfl) ?_
      have e : i = 36 := by omega
      subst e
      exact hQ
    · try simp (disch := omega) only [nI_b2, Decidable.not_not, nI_ltI, nI_leI, nI_eq, ge_iff_le, gt_iff_lt, ne_eq, Nat.not_lt, Nat.not_le] at c_7
      refine w_iload_n dX8_passing_10 rfl ?_
      refine w_aload_n dX8_passing_11 rfl ?_
      refine w_getf dX8_passing_12 fl_X8_35 (by first | assumption | exact gs_at | (rw [gs_ne (by omega)]; (first | assumption | exact gs_at | (rw [gs_ne (by omega)]; (first | assumption | exact gs_at | (rw [gs_ne (by omega)]; (first | assumption | exact gs_at | (rw [gs_ne (by omega)]; (first | assumption | exact gs_at))))))))) rfl ?_
      refine w_iload_n dX8_passing_15 rfl ?_
      refine w_zaload dX8_passing_16 (by first | assumption | exact gs_at | (rw [gs_ne (by omega)]; (first | assumption | exact gs_at | (rw [gs_ne (by omega)]; (first | assumption | exact gs_at | (rw [gs_ne (by omega)]; (first | assumption | exact gs_at | (rw [gs_ne (by omega)]; (first | assumption | exact gs_at))))))))) (by first | assumption | exact vp_in_nI (by omega) (by omega) | exact vp_in_nI (by assumption) (by omega)) ?_
      rw [nI_clamp (by omega)]
      rw [ha i (by omega)]
      refine w_ifN_eq (tgt := 32) dX8_passing_17 (by decide) (fun c_17 => ?_) (fun c_17 => ?_)
      · try simp (disch := omega) only [nI_b2, Decidable.not_not, nI_ltI, nI_leI, nI_eq, ge_iff_le, gt_iff_lt, ne_eq, Nat.not_lt, Nat.not_le] at c_17
        refine w_iconst (v := nI 0) dX8_passing_32 (by decide) ?_
        first | refine w_iaddN dX8_passing_33 ?_ | refine w_iadd dX8_passing_33 ?_
        refine w_istore_2 dX8_passing_34 rfl ?_
        first | refine w_iinc_3 dX8_passing_35 (nI_inc _) rfl ?_ | refine w_iinc_3 dX8_passing_35 rfl rfl ?_
        refine w_goto (tgt := 4) dX8_passing_38 (by decide) ?_
        have hN := ih (i + 1) (by omega) (by omega)
        rw [wyN] at hN
        first
          | (rw [if_pos ⟨c_17, bit_one.mpr (hpb.mp c_25)⟩] at hN; exact hN)
          | (rw [if_neg (fun h => by have h9 := hpb.mpr (bit_one.mp h.2); unfold paP at h9; omega)] at hN; exact hN)
          | (rw [if_neg (fun h => c_17 h.1)] at hN; exact hN)
      · try simp (disch := omega) only [nI_b2, Decidable.not_not, nI_ltI, nI_leI, nI_eq, ge_iff_le, gt_iff_lt, ne_eq, Nat.not_lt, Nat.not_le] at c_17
        have hpb := pa_bit (w := i) (by omega) hr
        refine w_iload_n dX8_passing_20 rfl ?_
        refine w_iload_n dX8_passing_21 rfl ?_
        refine wS2u dX8_passing_22 lk_X8_328 rfl (m_passes (by omega) hr) (Nat.le_of_ble_eq_true rfl) (Nat.le_of_ble_eq_true rfl) (Nat.le_of_ble_eq_true rfl) (Nat.le_of_ble_eq_true rfl) ?_
        refine w_ifN_eq (tgt := 32) dX8_passing_25 (by decide) (fun c_25 => ?_) (fun c_25 => ?_)
        · try simp (disch := omega) only [nI_b2, Decidable.not_not, nI_ltI, nI_leI, nI_eq, ge_iff_le, gt_iff_lt, ne_eq, Nat.not_lt, Nat.not_le] at c_25
          refine w_iconst (v := nI 0) dX8_passing_32 (by decide) ?_
          first | refine w_iaddN dX8_passing_33 ?_ | refine w_iadd dX8_passing_33 ?_
          refine w_istore_2 dX8_passing_34 rfl ?_
          first | refine w_iinc_3 dX8_passing_35 (nI_inc _) rfl ?_ | refine w_iinc_3 dX8_passing_35 rfl rfl ?_
          refine w_goto (tgt := 4) dX8_passing_38 (by decide) ?_
          have hN := ih (i + 1) (by omega) (by omega)
          rw [wyN] at hN
          first
            | (rw [if_pos ⟨c_17, bit_one.mpr (hpb.mp c_25)⟩] at hN; exact hN)
            | (rw [if_neg (fun h => by have h9 := hpb.mpr (bit_one.mp h.2); unfold paP at h9; omega)] at hN; exact hN)
            | (rw [if_neg (fun h => c_17 h.1)] at hN; exact hN)
        · try simp (disch := omega) only [nI_b2, Decidable.not_not, nI_ltI, nI_leI, nI_eq, ge_iff_le, gt_iff_lt, ne_eq, Nat.not_lt, Nat.not_le] at c_25
          refine w_iconst (v := nI 1) dX8_passing_28 (by decide) ?_
          refine w_goto (tgt := 33) dX8_passing_29 (by decide) ?_
          first | refine w_iaddN dX8_passing_33 ?_ | refine w_iadd dX8_passing_33 ?_
          refine w_istore_2 dX8_passing_34 rfl ?_
          first | refine w_iinc_3 dX8_passing_35 (nI_inc _) rfl ?_ | refine w_iinc_3 dX8_passing_35 rfl rfl ?_
          refine w_goto (tgt := 4) dX8_passing_38 (by decide) ?_
          have hN := ih (i + 1) (by omega) (by omega)
          rw [wyN] at hN
          first
            | (rw [if_pos ⟨c_17, bit_one.mpr (hpb.mp c_25)⟩] at hN; exact hN)
            | (rw [if_neg (fun h => by have h9 := hpb.mpr (bit_one.mp h.2); unfold paP at h9; omega)] at hN; exact hN)
            | (rw [if_neg (fun h => c_17 h.1)] at hN; exact hN)
theorem m_passing {E : EV} {V t : Nat} {th hi ac tp ba en at_ fa dp io hm_ we sh so : Int32} {G : AH} {a : Nat → Int32} {r : Nat} (hV : G.1 V = some (mO V th hi ac tp ba en at_ fa dp io hm_ we sh so)) (hA : G.1 (V + 8) = some (aZ 36 a)) (ha : ∀ w, w < 36 → a w = nI (b2 (ftP w t))) (hr : r < 6) : Cu E 2 kX8_passing [.ref V, .int (nI r)] G (.int (nI (wyN t (1 * 2 ^ r) 36))) G := by
  refine Ct.intro rfl (by decide) [.ref V, .int (nI r), .float 0, .float 0] (by simp [Value.category]) (Nat.le_of_ble_eq_true rfl) rfl ?_
  refine w_iconst (v := nI 0) dX8_passing_0 (by decide) ?_
  refine w_istore_2 dX8_passing_1 rfl ?_
  refine w_iconst (v := nI 0) dX8_passing_2 (by decide) ?_
  refine w_istore_3 dX8_passing_3 rfl ?_
  exact ml_passing hV hA ha hr ⟨rfl, rfl⟩ 37 0 (by omega) (by omega)
theorem ml_trs {E : EV} {Q : OC → AH → Prop} {V t : Nat} {th hi ac tp ba en at_ fa dp io hm_ we sh so : Int32} {G : AH} {a : Nat → Int32} {x : Value} (hV : G.1 V = some (mO V th hi ac tp ba en at_ fa dp io hm_ we sh so)) (hA : G.1 (V + 8) = some (aZ 36 a)) (ha : ∀ w, w < 36 → a w = nI (b2 (ftP w t))) (hQ : Q (.inl (some (.int (nI (bitN (fun r => 0 < wyN t 0 36 ∧ wyN t (1 * 2 ^ r) 36 = wyN t 0 36) 6))))) G) : ∀ (k i : Nat), 6 - i < k → i ≤ 6 → Wp E 3 0 0 kX8_traces Q G (0, 0) 48 [.ref V, x, .int (nI (wyN t 0 36)), .int (nI (bitN (fun r => 0 < wyN t 0 36 ∧ wyN t (1 * 2 ^ r) 36 = wyN t 0 36) i)), .int (nI i)] [] := by
  have hw36 := wyN_le t 0 36
  intro k
  induction k with
  | zero => intro i h; exact absurd h (by omega)
  | succ k ih =>
    intro i hk hi4
    have hwi := wyN_le t (1 * 2 ^ i) 36
    refine w_iload dX8_traces_48 rfl ?_
    refine w_bipush (v := nI 6) dX8_traces_50 (by decide) ?_
    refine w_icmp_ge (tgt := 86) dX8_traces_52 (by decide) (fun c_52 => ?_) (fun c_52 => ?_)
    · try simp (disch := omega) only [nI_b2, Decidable.not_not, nI_ltI, nI_leI, nI_eq, ge_iff_le, gt_iff_lt, ne_eq, Nat.not_lt, Nat.not_le] at c_52
      refine w_iload_n dX8_traces_86 rfl ?_
      refine w_iret dX8_traces_87 rfl (Nat.le_of_ble_eq_true rfl) (Nat.le_of_ble_eq_true rfl) ?_
      have e : i = 6 := by omega
      subst e
      exact hQ
    · try simp (disch := omega) only [nI_b2, Decidable.not_not, nI_ltI, nI_leI, nI_eq, ge_iff_le, gt_iff_lt, ne_eq, Nat.not_lt, Nat.not_le] at c_52
      refine w_iload_n dX8_traces_55 rfl ?_
      refine w_iload_n dX8_traces_56 rfl ?_
      refine w_ifN_le (tgt := 77) dX8_traces_57 (by decide) (fun c_57 => ?_) (fun c_57 => ?_)
      · try simp (disch := omega) only [nI_b2, Decidable.not_not, nI_ltI, nI_leI, nI_eq, ge_iff_le, gt_iff_lt, ne_eq, Nat.not_lt, Nat.not_le] at c_57
        refine w_iconst (v := nI 0) dX8_traces_77 (by decide) ?_
        first | refine w_iorN dX8_traces_78 ?_ | refine w_ior dX8_traces_78 ?_
        refine w_istore_3 dX8_traces_79 rfl ?_
        first | refine w_iinc_4 dX8_traces_80 (nI_inc _) rfl ?_ | refine w_iinc_4 dX8_traces_80 rfl rfl ?_
        refine w_goto (tgt := 48) dX8_traces_83 (by decide) ?_
        have hN := ih (i + 1) (by omega) (by omega)
        first
          | (rw [bitN_t (by omega)] at hN; exact hN)
          | (rw [bitN_f (by omega)] at hN; rw [Nat.or_zero]; exact hN)
      · try simp (disch := omega) only [nI_b2, Decidable.not_not, nI_ltI, nI_leI, nI_eq, ge_iff_le, gt_iff_lt, ne_eq, Nat.not_lt, Nat.not_le] at c_57
        refine w_aload_n dX8_traces_60 rfl ?_
        refine w_iload dX8_traces_61 rfl ?_
        refine wV1u dX8_traces_63 lk_X8_334 rfl (by first | assumption | exact gs_at | (rw [gs_ne (by omega)]; (first | assumption | exact gs_at | (rw [gs_ne (by omega)]; (first | assumption | exact gs_at | (rw [gs_ne (by omega)]; (first | assumption | exact gs_at | (rw [gs_ne (by omega)]; (first | assumption | exact gs_at))))))))) rfl rfl (m_passing hV hA ha (by omega)) (Nat.le_of_ble_eq_true rfl) (Nat.le_of_ble_eq_true rfl) (Nat.le_of_ble_eq_true rfl) (Nat.le_of_ble_eq_true rfl) ?_
        refine w_iload_n dX8_traces_66 rfl ?_
        refine w_icmp_ne (tgt := 77) dX8_traces_67 (by decide) (fun c_67 => ?_) (fun c_67 => ?_)
        · try simp (disch := omega) only [nI_b2, Decidable.not_not, nI_ltI, nI_leI, nI_eq, ge_iff_le, gt_iff_lt, ne_eq, Nat.not_lt, Nat.not_le] at c_67
          refine w_iconst (v := nI 0) dX8_traces_77 (by decide) ?_
          first | refine w_iorN dX8_traces_78 ?_ | refine w_ior dX8_traces_78 ?_
          refine w_istore_3 dX8_traces_79 rfl ?_
          first | refine w_iinc_4 dX8_traces_80 (nI_inc _) rfl ?_ | refine w_iinc_4 dX8_traces_80 rfl rfl ?_
          refine w_goto (tgt := 48) dX8_traces_83 (by decide) ?_
          have hN := ih (i + 1) (by omega) (by omega)
          first
            | (rw [bitN_t (by omega)] at hN; exact hN)
            | (rw [bitN_f (by omega)] at hN; rw [Nat.or_zero]; exact hN)
        · try simp (disch := omega) only [nI_b2, Decidable.not_not, nI_ltI, nI_leI, nI_eq, ge_iff_le, gt_iff_lt, ne_eq, Nat.not_lt, Nat.not_le] at c_67
          refine w_iconst (v := nI 1) dX8_traces_70 (by decide) ?_
          refine w_iload dX8_traces_71 rfl ?_
          refine w_ishlN (by omega) (p2_lt (by omega)) dX8_traces_73 ?_
          refine w_goto (tgt := 78) dX8_traces_74 (by decide) ?_
          first | refine w_iorN dX8_traces_78 ?_ | refine w_ior dX8_traces_78 ?_
          refine w_istore_3 dX8_traces_79 rfl ?_
          first | refine w_iinc_4 dX8_traces_80 (nI_inc _) rfl ?_ | refine w_iinc_4 dX8_traces_80 rfl rfl ?_
          refine w_goto (tgt := 48) dX8_traces_83 (by decide) ?_
          have hN := ih (i + 1) (by omega) (by omega)
          first
            | (rw [bitN_t (by omega)] at hN; exact hN)
            | (rw [bitN_f (by omega)] at hN; rw [Nat.or_zero]; exact hN)
theorem m_traces {E : EV} {V n : Nat} {th hi ac ba en at_ fa dp io hm_ we sh so : Int32} {G : AH} {f : Nat → Nat} {su : Nat} (hV : G.1 V = some (mO V th hi ac (nI n) ba en at_ fa dp io hm_ we sh so)) (hT5 : G.1 (V + 5) = some (aI 400 (fun i => nI (f i)))) (hn : n ≤ 400) (hf : ∀ i, f i < 256) (ha8 : ∃ a : Nat → Int32, G.1 (V + 8) = some (aZ 36 a)) (hsu : su < 2 ^ 30) : Ci E 3 kX8_traces [.ref V, .int (nI su)] G (fun r G1 => r = (if trOk f n then trcV (trT f (n / 2)) su else nI 0) ∧ ∃ a : Nat → Int32, G1 = gs (gs G (V + 8) (aZ 36 a)) V (mO V (nI (if trOk f n then 0 else 1)) hi ac (nI 0) ba en at_ fa dp io hm_ we sh so)) := by
  refine Ct.intro rfl (by decide) [.ref V, .int (nI su), .float 0, .float 0, .float 0] (by simp [Value.category]) (Nat.le_of_ble_eq_true rfl) rfl ?_
  refine w_aload_n dX8_traces_0 rfl ?_
  refine wV0i dX8_traces_1 lk_X8_331 rfl (by first | assumption | exact gs_at | (rw [gs_ne (by omega)]; (first | assumption | exact gs_at | (rw [gs_ne (by omega)]; (first | assumption | exact gs_at | (rw [gs_ne (by omega)]; (first | assumption | exact gs_at | (rw [gs_ne (by omega)]; (first | assumption | exact gs_at))))))))) rfl rfl (m_told hV hT5 hn hf ha8) (Nat.le_of_ble_eq_true rfl) (Nat.le_of_ble_eq_true rfl) (Nat.le_of_ble_eq_true rfl) (Nat.le_of_ble_eq_true rfl) (fun r_1 G1 h_1 => ?_)
  obtain ⟨hb, ho, a, hG1, ha⟩ := h_1
  subst hG1
  have hw36 := wyN_le (trT f (n / 2)) 0 36
  by_cases hok : trOk f n
  · have e1 := ho hok
    subst e1
    have hA := ha hok
    refine w_istore_2 dX8_traces_4 rfl ?_
    refine w_aload_n dX8_traces_5 rfl ?_
    refine w_iload_n dX8_traces_6 rfl ?_
    refine w_iconst (v := (-1)) dX8_traces_7 (by decide) ?_
    refine w_icmp_ne (tgt := 15) dX8_traces_8 (by decide) (fun c_8 => ?_) (fun c_8 => ?_)
    · try simp (disch := omega) only [nI_b2, Decidable.not_not, nI_ltI, nI_leI, nI_eq, ge_iff_le, gt_iff_lt, ne_eq, Nat.not_lt, Nat.not_le] at c_8
      refine w_iconst (v := nI 0) dX8_traces_15 (by decide) ?_
      refine w_putf dX8_traces_16 fl_X8_39 (by first | assumption | exact gs_at | (rw [gs_ne (by omega)]; (first | assumption | exact gs_at | (rw [gs_ne (by omega)]; (first | assumption | exact gs_at | (rw [gs_ne (by omega)]; (first | assumption | exact gs_at | (rw [gs_ne (by omega)]; (first | assumption | exact gs_at))))))))) (by simp) rfl rfl ?_
      refine w_aload_n dX8_traces_19 rfl ?_
      refine w_getf dX8_traces_20 fl_X8_39 (by first | assumption | exact gs_at | (rw [gs_ne (by omega)]; (first | assumption | exact gs_at | (rw [gs_ne (by omega)]; (first | assumption | exact gs_at | (rw [gs_ne (by omega)]; (first | assumption | exact gs_at | (rw [gs_ne (by omega)]; (first | assumption | exact gs_at))))))))) rfl ?_
      refine w_ifN_gt (tgt := 30) dX8_traces_23 (by decide) (fun c_23 => ?_) (fun c_23 => ?_)
      · try simp (disch := omega) only [nI_b2, Decidable.not_not, nI_ltI, nI_leI, nI_eq, ge_iff_le, gt_iff_lt, ne_eq, Nat.not_lt, Nat.not_le] at c_23
        exact absurd c_23 (by decide)
      · try simp (disch := omega) only [nI_b2, Decidable.not_not, nI_ltI, nI_leI, nI_eq, ge_iff_le, gt_iff_lt, ne_eq, Nat.not_lt, Nat.not_le] at c_23
        refine w_iload_n dX8_traces_26 rfl ?_
        refine w_ifN_ne (tgt := 43) dX8_traces_27 (by decide) (fun c_27 => ?_) (fun c_27 => ?_)
        · try simp (disch := omega) only [nI_b2, Decidable.not_not, nI_ltI, nI_leI, nI_eq, ge_iff_le, gt_iff_lt, ne_eq, Nat.not_lt, Nat.not_le] at c_27
          refine w_iconst (v := nI 0) dX8_traces_43 (by decide) ?_
          refine w_istore_3 dX8_traces_44 rfl ?_
          refine w_iconst (v := nI 0) dX8_traces_45 (by decide) ?_
          refine w_istore_4 dX8_traces_46 rfl ?_
          rw [gs_gs]
          refine ml_trs gs_at ((gs_ne (by omega)).trans gs_at) hA ?_ 7 0 (by omega) (by omega)
          refine ⟨_, rfl, ?_, a, by rw [if_pos hok]⟩
          rw [if_pos hok, trcV, if_neg (by omega)]
          by_cases h0 : wyN (trT f (n / 2)) 0 36 = 0
          · rw [if_pos h0, bitN_no 6 (fun i hi h => by omega)]
          · rw [if_neg h0, ts_eq h0]
        · try simp (disch := omega) only [nI_b2, Decidable.not_not, nI_ltI, nI_leI, nI_eq, ge_iff_le, gt_iff_lt, ne_eq, Nat.not_lt, Nat.not_le] at c_27
          refine w_aload_n dX8_traces_30 rfl ?_
          refine w_getf dX8_traces_31 fl_X8_39 (by first | assumption | exact gs_at | (rw [gs_ne (by omega)]; (first | assumption | exact gs_at | (rw [gs_ne (by omega)]; (first | assumption | exact gs_at | (rw [gs_ne (by omega)]; (first | assumption | exact gs_at | (rw [gs_ne (by omega)]; (first | assumption | exact gs_at))))))))) rfl ?_
          refine w_ifN_le (tgt := 41) dX8_traces_34 (by decide) (fun c_34 => ?_) (fun c_34 => ?_)
          · try simp (disch := omega) only [nI_b2, Decidable.not_not, nI_ltI, nI_leI, nI_eq, ge_iff_le, gt_iff_lt, ne_eq, Nat.not_lt, Nat.not_le] at c_34
            refine w_iload_n dX8_traces_41 rfl ?_
            refine w_iret dX8_traces_42 rfl (Nat.le_of_ble_eq_true rfl) (Nat.le_of_ble_eq_true rfl) ?_
            refine ⟨_, rfl, ?_, a, by rw [if_pos hok, gs_gs]; rfl⟩
            rw [if_pos hok, trcV, if_pos (by omega)]
          · try simp (disch := omega) only [nI_b2, Decidable.not_not, nI_ltI, nI_leI, nI_eq, ge_iff_le, gt_iff_lt, ne_eq, Nat.not_lt, Nat.not_le] at c_34
            exact absurd c_34 (by decide)
    · try simp (disch := omega) only [nI_b2, Decidable.not_not, nI_ltI, nI_leI, nI_eq, ge_iff_le, gt_iff_lt, ne_eq, Nat.not_lt, Nat.not_le] at c_8
      exact absurd c_8 (nI_nm1 (by omega))
  · have e1 := hb hok
    subst e1
    refine w_istore_2 dX8_traces_4 rfl ?_
    refine w_aload_n dX8_traces_5 rfl ?_
    refine w_iload_n dX8_traces_6 rfl ?_
    refine w_iconst (v := (-1)) dX8_traces_7 (by decide) ?_
    refine w_icmp_ne (tgt := 15) dX8_traces_8 (by decide) (fun c_8 => ?_) (fun c_8 => ?_)
    · skip
      exact absurd rfl c_8
    · skip
      refine w_iconst (v := nI 1) dX8_traces_11 (by decide) ?_
      refine w_goto (tgt := 16) dX8_traces_12 (by decide) ?_
      refine w_putf dX8_traces_16 fl_X8_39 (by first | assumption | exact gs_at | (rw [gs_ne (by omega)]; (first | assumption | exact gs_at | (rw [gs_ne (by omega)]; (first | assumption | exact gs_at | (rw [gs_ne (by omega)]; (first | assumption | exact gs_at | (rw [gs_ne (by omega)]; (first | assumption | exact gs_at))))))))) (by simp) rfl rfl ?_
      refine w_aload_n dX8_traces_19 rfl ?_
      refine w_getf dX8_traces_20 fl_X8_39 (by first | assumption | exact gs_at | (rw [gs_ne (by omega)]; (first | assumption | exact gs_at | (rw [gs_ne (by omega)]; (first | assumption | exact gs_at | (rw [gs_ne (by omega)]; (first | assumption | exact gs_at | (rw [gs_ne (by omega)]; (first | assumption | exact gs_at))))))))) rfl ?_
      refine w_ifN_gt (tgt := 30) dX8_traces_23 (by decide) (fun c_23 => ?_) (fun c_23 => ?_)
      · skip
        refine w_aload_n dX8_traces_30 rfl ?_
        refine w_getf dX8_traces_31 fl_X8_39 (by first | assumption | exact gs_at | (rw [gs_ne (by omega)]; (first | assumption | exact gs_at | (rw [gs_ne (by omega)]; (first | assumption | exact gs_at | (rw [gs_ne (by omega)]; (first | assumption | exact gs_at | (rw [gs_ne (by omega)]; (first | assumption | exact gs_at))))))))) rfl ?_
        refine w_ifN_le (tgt := 41) dX8_traces_34 (by decide) (fun c_34 => ?_) (fun c_34 => ?_)
        · skip
          exact absurd c_34 (by decide)
        · skip
          refine w_iconst (v := nI 0) dX8_traces_37 (by decide) ?_
          refine w_goto (tgt := 42) dX8_traces_38 (by decide) ?_
          refine w_iret dX8_traces_42 rfl (Nat.le_of_ble_eq_true rfl) (Nat.le_of_ble_eq_true rfl) ?_
          exact ⟨_, rfl, by rw [if_neg hok], a, by rw [if_neg hok, gs_gs]; rfl⟩
      · skip
        exact absurd (show nI 0 < nI 1 by decide) c_23
