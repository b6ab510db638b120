/-! the model: figures, lines of a deed -/
theorem run_st {y : Nat → Nat} {n lo hi b : Nat} (hn : n ≤ 400) : ∀ j, (∀ i, i < j → b + i < n ∧ lo ≤ y (b + i) ∧ y (b + i) ≤ hi) → run y n lo hi b = run y n lo hi (b + j)
  | 0, _ => rfl
  | j + 1, h => by
    have h1 := h j (Nat.lt_succ_self _)
    rw [run_st hn j (fun i hi => h i (by omega)), run_in hn h1.1 h1.2.1 h1.2.2, Nat.add_assoc]
theorem tokE_d {y : Nat → Nat} {n b : Nat} (h : b < n ∧ 48 ≤ y b ∧ y b ≤ 57) : tokE y n b = run y n 48 57 b := by
  unfold tokE
  rw [if_pos h.1, if_neg (by omega), if_pos h.2]
theorem m_figF {E : EV} {V n p : Nat} {th hi ac tp ba fa dp io hm_ we sh so : Int32} {y : Nat → Nat} {G : AH} {lo hi2 : Int32} (hV : G.1 V = some (mO V th hi ac tp ba (nI n) (nI (p)) (fa) dp io hm_ we sh so)) (hf : ¬ fa = -1) : Cu E 4 kX8_figures [.ref V, .int lo, .int hi2] G (.int (nI 0)) G := by
  refine Ct.intro rfl (by decide) [.ref V, .int lo, .int hi2, .float 0, .float 0] (by simp [Value.category]) (Nat.le_of_ble_eq_true rfl) rfl ?_
  refine w_aload_n dX8_figures_0 rfl ?_
  refine w_getf dX8_figures_1 fl_X8_25 (by first | assumption | exact gs_at | (rw [gs_ne (by omega)]; (first | assumption | exact gs_at | (rw [gs_ne (by omega)]; (first | assumption | exact gs_at | (rw [gs_ne (by omega)]; (first | assumption | exact gs_at | (rw [gs_ne (by omega)]; (first | assumption | exact gs_at))))))))) rfl ?_
  refine w_iconst (v := (-1)) dX8_figures_4 (by decide) ?_
  refine w_icmp_eq (tgt := 10) dX8_figures_5 (by decide) (fun c_5 => ?_) (fun c_5 => ?_)
  · skip
    exact absurd c_5 hf
  · skip
    refine w_iconst (v := nI 0) dX8_figures_8 (by decide) ?_
    refine w_iret dX8_figures_9 rfl (Nat.le_of_ble_eq_true rfl) (Nat.le_of_ble_eq_true rfl) ?_
    exact ⟨rfl, rfl⟩
theorem m_wrongF {E : EV} {V n p : Nat} {th hi ac tp ba dp io hm_ we sh so : Int32} {G : AH} {w : Int32} (hV : G.1 V = some (mO V th hi ac tp ba (nI n) (nI (p)) (-1) dp io hm_ we sh so)) : Cn E 1 kX8_wrong [.ref V, .int w] G (gs G V (mO V th hi ac tp ba (nI n) (nI (p)) (w) dp io hm_ we sh so)) := by
  refine Ct.intro rfl (by decide) [.ref V, .int w] (by simp [Value.category]) (Nat.le_of_ble_eq_true rfl) rfl ?_
  refine w_aload_n dX8_wrong_0 rfl ?_
  refine w_getf dX8_wrong_1 fl_X8_25 (by first | assumption | exact gs_at | (rw [gs_ne (by omega)]; (first | assumption | exact gs_at | (rw [gs_ne (by omega)]; (first | assumption | exact gs_at | (rw [gs_ne (by omega)]; (first | assumption | exact gs_at | (rw [gs_ne (by omega)]; (first | assumption | exact gs_at))))))))) rfl ?_
  refine w_iconst (v := (-1)) dX8_wrong_4 (by decide) ?_
  refine w_icmp_ne (tgt := 13) dX8_wrong_5 (by decide) (fun c_5 => ?_) (fun c_5 => ?_)
  · skip
    exact absurd rfl c_5
  · skip
    refine w_aload_n dX8_wrong_8 rfl ?_
    refine w_iload_n dX8_wrong_9 rfl ?_
    refine w_putf dX8_wrong_10 fl_X8_25 (by first | assumption | exact gs_at | (rw [gs_ne (by omega)]; (first | assumption | exact gs_at | (rw [gs_ne (by omega)]; (first | assumption | exact gs_at | (rw [gs_ne (by omega)]; (first | assumption | exact gs_at | (rw [gs_ne (by omega)]; (first | assumption | exact gs_at))))))))) (by simp) rfl rfl ?_
    refine w_vret dX8_wrong_13 rfl (Nat.le_of_ble_eq_true rfl) (Nat.le_of_ble_eq_true rfl) ?_
    exact ⟨rfl, rfl⟩
theorem ml_fig89 {E : EV} {Q : OC → AH → Prop} {V n : Nat} {th hi ac tp ba dp io hm_ we sh so : Int32} {G : AH} {lo h9 b j v : Nat} {hi2 : Int32} (hn : n ≤ 400) (hlo : lo < 2 ^ 20) (hh9 : h9 < 2 ^ 20) (hh : hi2 = nI h9 - nI 1) (hb : b + j ≤ n) (hj : j ≤ 4) (hv : v < 2 ^ 20) (hok : ¬ j = 0 → j ≤ 3 → lo ≤ v → v < h9 → Q (.inl (some (.int (nI v)))) (gs G V (mO V th hi ac tp ba (nI n) (nI (b + j)) (-1) dp io hm_ we sh so))) (hno : (j = 0 ∨ 3 < j ∨ v < lo ∨ h9 ≤ v) → Q (.inl (some (.int (nI v)))) (gs G V (mO V th hi ac tp ba (nI n) (nI (b + j)) (nI b) dp io hm_ we sh so))) : Wp E 4 0 0 kX8_figures Q (gs G V (mO V th hi ac tp ba (nI n) (nI (b + j)) (-1) dp io hm_ we sh so)) (0, 0) 89 [.ref V, .int (nI lo), .int hi2, .int (nI b), .int (nI v)] [] := by
  have hV2 : (gs G V (mO V th hi ac tp ba (nI n) (nI (b + j)) (-1) dp io hm_ we sh so)).1 V = some (mO V th hi ac tp ba (nI n) (nI (b + j)) (-1) dp io hm_ we sh so) := gs_at
  subst hh
  refine w_aload_n dX8_figures_89 rfl ?_
  refine w_getf dX8_figures_90 fl_X8_56 (by first | assumption | exact gs_at | (rw [gs_ne (by omega)]; (first | assumption | exact gs_at | (rw [gs_ne (by omega)]; (first | assumption | exact gs_at | (rw [gs_ne (by omega)]; (first | assumption | exact gs_at | (rw [gs_ne (by omega)]; (first | assumption | exact gs_at))))))))) rfl ?_
  refine w_iload_n dX8_figures_93 rfl ?_
  refine w_icmp_eq (tgt := 119) dX8_figures_94 (by decide) (fun c_94 => ?_) (fun c_94 => ?_)
  · try simp (disch := omega) only [hiL, nI_ltI, nI_leI, nI_eq, ge_iff_le, gt_iff_lt, ne_eq, Nat.not_lt, Nat.not_le] at c_94
    refine w_aload_n dX8_figures_119 rfl ?_
    refine w_iload_n dX8_figures_120 rfl ?_
    refine wV1n dX8_figures_121 lk_X8_82 rfl (by first | assumption | exact gs_at | (rw [gs_ne (by omega)]; (first | assumption | exact gs_at | (rw [gs_ne (by omega)]; (first | assumption | exact gs_at | (rw [gs_ne (by omega)]; (first | assumption | exact gs_at | (rw [gs_ne (by omega)]; (first | assumption | exact gs_at))))))))) rfl rfl (m_wrongF hV2) (Nat.le_of_ble_eq_true rfl) (Nat.le_of_ble_eq_true rfl) (Nat.le_of_ble_eq_true rfl) (Nat.le_of_ble_eq_true rfl) ?_
    rw [gs_gs]
    refine w_iload dX8_figures_124 rfl ?_
    refine w_iret dX8_figures_126 rfl (Nat.le_of_ble_eq_true rfl) (Nat.le_of_ble_eq_true rfl) ?_
    first
      | exact hok (by omega) (by omega) (by omega) (by omega)
      | exact hno (by omega)
  · try simp (disch := omega) only [hiL, nI_ltI, nI_leI, nI_eq, ge_iff_le, gt_iff_lt, ne_eq, Nat.not_lt, Nat.not_le] at c_94
    refine w_aload_n dX8_figures_97 rfl ?_
    refine w_getf dX8_figures_98 fl_X8_56 (by first | assumption | exact gs_at | (rw [gs_ne (by omega)]; (first | assumption | exact gs_at | (rw [gs_ne (by omega)]; (first | assumption | exact gs_at | (rw [gs_ne (by omega)]; (first | assumption | exact gs_at | (rw [gs_ne (by omega)]; (first | assumption | exact gs_at))))))))) rfl ?_
    refine w_iload_n dX8_figures_101 rfl ?_
    refine w_isubN (by omega) dX8_figures_102 ?_
    refine w_iconst (v := nI 3) dX8_figures_103 (by decide) ?_
    refine w_icmp_gt (tgt := 119) dX8_figures_104 (by decide) (fun c_104 => ?_) (fun c_104 => ?_)
    · try simp (disch := omega) only [hiL, nI_ltI, nI_leI, nI_eq, ge_iff_le, gt_iff_lt, ne_eq, Nat.not_lt, Nat.not_le] at c_104
      refine w_aload_n dX8_figures_119 rfl ?_
      refine w_iload_n dX8_figures_120 rfl ?_
      refine wV1n dX8_figures_121 lk_X8_82 rfl (by first | assumption | exact gs_at | (rw [gs_ne (by omega)]; (first | assumption | exact gs_at | (rw [gs_ne (by omega)]; (first | assumption | exact gs_at | (rw [gs_ne (by omega)]; (first | assumption | exact gs_at | (rw [gs_ne (by omega)]; (first | assumption | exact gs_at))))))))) rfl rfl (m_wrongF hV2) (Nat.le_of_ble_eq_true rfl) (Nat.le_of_ble_eq_true rfl) (Nat.le_of_ble_eq_true rfl) (Nat.le_of_ble_eq_true rfl) ?_
      rw [gs_gs]
      refine w_iload dX8_figures_124 rfl ?_
      refine w_iret dX8_figures_126 rfl (Nat.le_of_ble_eq_true rfl) (Nat.le_of_ble_eq_true rfl) ?_
      first
        | exact hok (by omega) (by omega) (by omega) (by omega)
        | exact hno (by omega)
    · try simp (disch := omega) only [hiL, nI_ltI, nI_leI, nI_eq, ge_iff_le, gt_iff_lt, ne_eq, Nat.not_lt, Nat.not_le] at c_104
      refine w_iload dX8_figures_107 rfl ?_
      refine w_iload_n dX8_figures_109 rfl ?_
      refine w_icmp_lt (tgt := 119) dX8_figures_110 (by decide) (fun c_110 => ?_) (fun c_110 => ?_)
      · try simp (disch := omega) only [hiL, nI_ltI, nI_leI, nI_eq, ge_iff_le, gt_iff_lt, ne_eq, Nat.not_lt, Nat.not_le] at c_110
        refine w_aload_n dX8_figures_119 rfl ?_
        refine w_iload_n dX8_figures_120 rfl ?_
        refine wV1n dX8_figures_121 lk_X8_82 rfl (by first | assumption | exact gs_at | (rw [gs_ne (by omega)]; (first | assumption | exact gs_at | (rw [gs_ne (by omega)]; (first | assumption | exact gs_at | (rw [gs_ne (by omega)]; (first | assumption | exact gs_at | (rw [gs_ne (by omega)]; (first | assumption | exact gs_at))))))))) rfl rfl (m_wrongF hV2) (Nat.le_of_ble_eq_true rfl) (Nat.le_of_ble_eq_true rfl) (Nat.le_of_ble_eq_true rfl) (Nat.le_of_ble_eq_true rfl) ?_
        rw [gs_gs]
        refine w_iload dX8_figures_124 rfl ?_
        refine w_iret dX8_figures_126 rfl (Nat.le_of_ble_eq_true rfl) (Nat.le_of_ble_eq_true rfl) ?_
        first
          | exact hok (by omega) (by omega) (by omega) (by omega)
          | exact hno (by omega)
      · try simp (disch := omega) only [hiL, nI_ltI, nI_leI, nI_eq, ge_iff_le, gt_iff_lt, ne_eq, Nat.not_lt, Nat.not_le] at c_110
        refine w_iload dX8_figures_113 rfl ?_
        refine w_iload_n dX8_figures_115 rfl ?_
        refine w_icmp_le (tgt := 124) dX8_figures_116 (by decide) (fun c_116 => ?_) (fun c_116 => ?_)
        · try simp (disch := omega) only [hiL, nI_ltI, nI_leI, nI_eq, ge_iff_le, gt_iff_lt, ne_eq, Nat.not_lt, Nat.not_le] at c_116
          refine w_iload dX8_figures_124 rfl ?_
          refine w_iret dX8_figures_126 rfl (Nat.le_of_ble_eq_true rfl) (Nat.le_of_ble_eq_true rfl) ?_
          first
            | exact hok (by omega) (by omega) (by omega) (by omega)
            | exact hno (by omega)
        · try simp (disch := omega) only [hiL, nI_ltI, nI_leI, nI_eq, ge_iff_le, gt_iff_lt, ne_eq, Nat.not_lt, Nat.not_le] at c_116
          refine w_aload_n dX8_figures_119 rfl ?_
          refine w_iload_n dX8_figures_120 rfl ?_
          refine wV1n dX8_figures_121 lk_X8_82 rfl (by first | assumption | exact gs_at | (rw [gs_ne (by omega)]; (first | assumption | exact gs_at | (rw [gs_ne (by omega)]; (first | assumption | exact gs_at | (rw [gs_ne (by omega)]; (first | assumption | exact gs_at | (rw [gs_ne (by omega)]; (first | assumption | exact gs_at))))))))) rfl rfl (m_wrongF hV2) (Nat.le_of_ble_eq_true rfl) (Nat.le_of_ble_eq_true rfl) (Nat.le_of_ble_eq_true rfl) (Nat.le_of_ble_eq_true rfl) ?_
          rw [gs_gs]
          refine w_iload dX8_figures_124 rfl ?_
          refine w_iret dX8_figures_126 rfl (Nat.le_of_ble_eq_true rfl) (Nat.le_of_ble_eq_true rfl) ?_
          first
            | exact hok (by omega) (by omega) (by omega) (by omega)
            | exact hno (by omega)
theorem ml_fig18 {E : EV} {Q : OC → AH → Prop} {V n : Nat} {th hi ac tp ba dp io hm_ we sh so : Int32} {y : Nat → Nat} {G : AH} {lo h9 b : Nat} {hi2 : Int32} (hn : n ≤ 400) (hy : ∀ i, y i < 256) (hlo : lo < 2 ^ 20) (hh9 : h9 < 2 ^ 20) (hh : hi2 = nI h9 - nI 1) (hbn : b ≤ n) (hok : ∀ v, numF y n b lo h9 = some v → Q (.inl (some (.int (nI v)))) (gs G V (mO V th hi ac tp ba (nI n) (nI (tokE y n b)) (-1) dp io hm_ we sh so))) (hno : numF y n b lo h9 = none → ∀ p2 v, p2 ≤ n → Q (.inl (some (.int (nI v)))) (gs G V (mO V th hi ac tp ba (nI n) (nI (p2)) (nI b) dp io hm_ we sh so))) : ∀ (k j : Nat), 4 - j < k → j ≤ 4 → b + j ≤ n → (∀ i, i < j → 48 ≤ y (b + i) ∧ y (b + i) ≤ 57) → TxP (gs G V (mO V th hi ac tp ba (nI n) (nI (b + j)) (-1) dp io hm_ we sh so)) V ba y n → Wp E 4 0 0 kX8_figures Q (gs G V (mO V th hi ac tp ba (nI n) (nI (b + j)) (-1) dp io hm_ we sh so)) (0, 0) 18 [.ref V, .int (nI lo), .int hi2, .int (nI b), .int (nI (digV y b j))] [] := by
  intro k
  induction k with
  | zero => intro j h; exact absurd h (by omega)
  | succ k ih =>
    intro j hk hj hbj hd hT
    have hV : (gs G V (mO V th hi ac tp ba (nI n) (nI (b + j)) (-1) dp io hm_ we sh so)).1 V = some (mO V th hi ac tp ba (nI n) (nI (b + j)) (-1) dp io hm_ we sh so) := gs_at
    have hyj := hy (b + j)
    have hdv : digV y b j < 10 ^ j := digV_le j (fun i h1 h2 => by have := hd (i - b) (by omega); rw [show b + (i - b) = i by omega] at this; exact this)
    have hd4 : 10 ^ j ≤ 10 ^ 4 := Nat.pow_le_pow_right (by decide) hj
    have go : ¬ (b + j < n ∧ 48 ≤ y (b + j) ∧ y (b + j) ≤ 57 ∧ j ≤ 3) → Wp E 4 0 0 kX8_figures Q (gs G V (mO V th hi ac tp ba (nI n) (nI (b + j)) (-1) dp io hm_ we sh so)) (0, 0) 89 [.ref V, .int (nI lo), .int hi2, .int (nI b), .int (nI (digV y b j))] [] := by
      intro hst
      have hrs : run y n 48 57 b = run y n 48 57 (b + j) := run_st hn j (fun i hi => ⟨by omega, hd i hi⟩)
      have hD : ¬ j = 0 → isD y n b = true := fun h0 => isD_iff.mpr ⟨by omega, by have := hd 0 (by omega); exact this⟩
      have hD0 : j = 0 → isD y n b = true → False := fun h0 h1 => by have h2 := isD_iff.mp h1; subst h0; exact hst ⟨h2.1, h2.2.1, h2.2.2, by omega⟩
      have htk : ¬ j = 0 → tokE y n b = run y n 48 57 b := fun h0 => tokE_d (isD_iff.mp (hD h0))
      have hr3 : ¬ j = 0 → j ≤ 3 → tokE y n b = b + j := fun h0 h3 => by rw [htk h0, hrs]; exact run_out (fun h => hst ⟨h.1, h.2.1, h.2.2, h3⟩)
      have hr4 : 3 < j → b + j ≤ tokE y n b := fun h3 => by rw [htk (by omega), hrs]; exact (run_le hbj).1
      refine ml_fig89 hn hlo hh9 hh hbj hj (by omega) (fun h1 h2 h3 h4 => ?_) (fun h1 => ?_)
      · have ht := hr3 h1 h2
        have hs : numF y n b lo h9 = some (digV y b j) := by
          unfold numF
          rw [ht, Nat.add_sub_cancel_left, if_pos ⟨hD h1, h2, h3, h4⟩]
        have h8 := hok _ hs
        rw [ht] at h8; exact h8
      · refine hno ?_ _ _ hbj
        unfold numF
        rw [if_neg]
        intro ⟨h2, h3, h4, h5⟩
        rcases h1 with h | h | h | h
        · exact hD0 h h2
        · have := hr4 h; omega
        · by_cases h0 : j = 0
          · exact hD0 h0 h2
          · by_cases h6 : j ≤ 3
            · rw [hr3 h0 h6, Nat.add_sub_cancel_left] at h4; omega
            · have := hr4 (by omega); omega
        · by_cases h0 : j = 0
          · exact hD0 h0 h2
          · by_cases h6 : j ≤ 3
            · rw [hr3 h0 h6, Nat.add_sub_cancel_left] at h5; omega
            · have := hr4 (by omega); omega
    refine w_aload_n dX8_figures_18 rfl ?_
    refine w_getf dX8_figures_19 fl_X8_56 (by first | assumption | exact gs_at | (rw [gs_ne (by omega)]; (first | assumption | exact gs_at | (rw [gs_ne (by omega)]; (first | assumption | exact gs_at | (rw [gs_ne (by omega)]; (first | assumption | exact gs_at | (rw [gs_ne (by omega)]; (first | assumption | exact gs_at))))))))) rfl ?_
    refine w_aload_n dX8_figures_22 rfl ?_
    refine w_getf dX8_figures_23 fl_X8_59 (by first | assumption | exact gs_at | (rw [gs_ne (by omega)]; (first | assumption | exact gs_at | (rw [gs_ne (by omega)]; (first | assumption | exact gs_at | (rw [gs_ne (by omega)]; (first | assumption | exact gs_at | (rw [gs_ne (by omega)]; (first | assumption | exact gs_at))))))))) rfl ?_
    refine w_icmp_ge (tgt := 89) dX8_figures_26 (by decide) (fun c_26 => ?_) (fun c_26 => ?_)
    · try simp (disch := omega) only [nI_b2, Decidable.not_not, nI_ltI, nI_leI, nI_eq, ge_iff_le, gt_iff_lt, ne_eq, Nat.not_lt, Nat.not_le] at c_26
      exact go (by omega)
    · try simp (disch := omega) only [nI_b2, Decidable.not_not, nI_ltI, nI_leI, nI_eq, ge_iff_le, gt_iff_lt, ne_eq, Nat.not_lt, Nat.not_le] at c_26
      refine w_aload_n dX8_figures_29 rfl ?_
      refine w_aload_n dX8_figures_30 rfl ?_
      refine w_getf dX8_figures_31 fl_X8_56 (by first | assumption | exact gs_at | (rw [gs_ne (by omega)]; (first | assumption | exact gs_at | (rw [gs_ne (by omega)]; (first | assumption | exact gs_at | (rw [gs_ne (by omega)]; (first | assumption | exact gs_at | (rw [gs_ne (by omega)]; (first | assumption | exact gs_at))))))))) rfl ?_
      refine wV1u dX8_figures_34 lk_X8_62 rfl (by first | assumption | exact gs_at | (rw [gs_ne (by omega)]; (first | assumption | exact gs_at | (rw [gs_ne (by omega)]; (first | assumption | exact gs_at | (rw [gs_ne (by omega)]; (first | assumption | exact gs_at | (rw [gs_ne (by omega)]; (first | assumption | exact gs_at))))))))) rfl rfl (m_letter hV hT hn hy hbj (by omega)) (Nat.le_of_ble_eq_true rfl) (Nat.le_of_ble_eq_true rfl) (Nat.le_of_ble_eq_true rfl) (Nat.le_of_ble_eq_true rfl) ?_
      refine w_bipush (v := nI 48) dX8_figures_37 (by decide) ?_
      refine w_bipush (v := nI 57) dX8_figures_39 (by decide) ?_
      refine wS3u dX8_figures_41 lk_X8_42 rfl (m_isIn) (Nat.le_of_ble_eq_true rfl) (Nat.le_of_ble_eq_true rfl) (Nat.le_of_ble_eq_true rfl) (Nat.le_of_ble_eq_true rfl) ?_
      rw [inN_eq (by omega)]
      refine w_ifN_eq (tgt := 89) dX8_figures_44 (by decide) (fun c_44 => ?_) (fun c_44 => ?_)
      · try simp (disch := omega) only [nI_b2, Decidable.not_not, nI_ltI, nI_leI, nI_eq, ge_iff_le, gt_iff_lt, ne_eq, Nat.not_lt, Nat.not_le] at c_44
        exact go (by omega)
      · try simp (disch := omega) only [nI_b2, Decidable.not_not, nI_ltI, nI_leI, nI_eq, ge_iff_le, gt_iff_lt, ne_eq, Nat.not_lt, Nat.not_le] at c_44
        refine w_aload_n dX8_figures_47 rfl ?_
        refine w_getf dX8_figures_48 fl_X8_56 (by first | assumption | exact gs_at | (rw [gs_ne (by omega)]; (first | assumption | exact gs_at | (rw [gs_ne (by omega)]; (first | assumption | exact gs_at | (rw [gs_ne (by omega)]; (first | assumption | exact gs_at | (rw [gs_ne (by omega)]; (first | assumption | exact gs_at))))))))) rfl ?_
        refine w_iload_n dX8_figures_51 rfl ?_
        refine w_isubN (by omega) dX8_figures_52 ?_
        refine w_iconst (v := nI 3) dX8_figures_53 (by decide) ?_
        refine w_icmp_gt (tgt := 89) dX8_figures_54 (by decide) (fun c_54 => ?_) (fun c_54 => ?_)
        · try simp (disch := omega) only [nI_b2, Decidable.not_not, nI_ltI, nI_leI, nI_eq, ge_iff_le, gt_iff_lt, ne_eq, Nat.not_lt, Nat.not_le] at c_54
          exact go (by omega)
        · try simp (disch := omega) only [nI_b2, Decidable.not_not, nI_ltI, nI_leI, nI_eq, ge_iff_le, gt_iff_lt, ne_eq, Nat.not_lt, Nat.not_le] at c_54
          refine w_bipush (v := nI 10) dX8_figures_57 (by decide) ?_
          refine w_iload dX8_figures_59 rfl ?_
          first | refine w_imulN dX8_figures_61 ?_ | refine w_imul dX8_figures_61 ?_
          refine w_aload_n dX8_figures_62 rfl ?_
          refine w_aload_n dX8_figures_63 rfl ?_
          refine w_getf dX8_figures_64 fl_X8_56 (by first | assumption | exact gs_at | (rw [gs_ne (by omega)]; (first | assumption | exact gs_at | (rw [gs_ne (by omega)]; (first | assumption | exact gs_at | (rw [gs_ne (by omega)]; (first | assumption | exact gs_at | (rw [gs_ne (by omega)]; (first | assumption | exact gs_at))))))))) rfl ?_
          refine wV1u dX8_figures_67 lk_X8_62 rfl (by first | assumption | exact gs_at | (rw [gs_ne (by omega)]; (first | assumption | exact gs_at | (rw [gs_ne (by omega)]; (first | assumption | exact gs_at | (rw [gs_ne (by omega)]; (first | assumption | exact gs_at | (rw [gs_ne (by omega)]; (first | assumption | exact gs_at))))))))) rfl rfl (m_letter hV hT hn hy hbj (by omega)) (Nat.le_of_ble_eq_true rfl) (Nat.le_of_ble_eq_true rfl) (Nat.le_of_ble_eq_true rfl) (Nat.le_of_ble_eq_true rfl) ?_
          first | refine w_iaddN dX8_figures_70 ?_ | refine w_iadd dX8_figures_70 ?_
          refine w_bipush (v := nI 48) dX8_figures_71 (by decide) ?_
          refine w_isubN (by omega) dX8_figures_73 ?_
          refine w_istore_4 dX8_figures_74 rfl ?_
          refine w_aload_n dX8_figures_76 rfl ?_
          refine w_dup dX8_figures_77 rfl ?_
          refine w_getf dX8_figures_78 fl_X8_56 (by first | assumption | exact gs_at | (rw [gs_ne (by omega)]; (first | assumption | exact gs_at | (rw [gs_ne (by omega)]; (first | assumption | exact gs_at | (rw [gs_ne (by omega)]; (first | assumption | exact gs_at | (rw [gs_ne (by omega)]; (first | assumption | exact gs_at))))))))) rfl ?_
          refine w_iconst (v := nI 1) dX8_figures_81 (by decide) ?_
          first | refine w_iaddN dX8_figures_82 ?_ | refine w_iadd dX8_figures_82 ?_
          refine w_putf dX8_figures_83 fl_X8_56 (by first | assumption | exact gs_at | (rw [gs_ne (by omega)]; (first | assumption | exact gs_at | (rw [gs_ne (by omega)]; (first | assumption | exact gs_at | (rw [gs_ne (by omega)]; (first | assumption | exact gs_at | (rw [gs_ne (by omega)]; (first | assumption | exact gs_at))))))))) (by simp) rfl rfl ?_
          refine w_goto (tgt := 18) dX8_figures_86 (by decide) ?_
          rw [gs_gs]
          have hN := ih (j + 1) (by omega) (by omega) (by omega) (fun i hi => by by_cases e : i = j; (subst e; exact ⟨by omega, by omega⟩); exact hd i (by omega)) (by have h8 := hT.gs (x := mO V th hi ac tp ba (nI n) (nI (b + (j + 1))) (-1) dp io hm_ we sh so); rw [gs_gs] at h8; exact h8)
          rw [digV, show digV y b j * 10 + (y (b + j) - 48) = 10 * digV y b j + y (b + j) - 48 by omega] at hN
          exact hN
theorem m_fig {E : EV} {V n p : Nat} {th hi ac tp ba dp io hm_ we sh so : Int32} {y : Nat → Nat} {G : AH} {lo h9 : Nat} {hi2 : Int32} (hV : G.1 V = some (mO V th hi ac tp ba (nI n) (nI (p)) (-1) dp io hm_ we sh so)) (hT : TxP G V ba y n) (hn : n ≤ 400) (hy : ∀ i, y i < 256) (hp : p ≤ n) (hlo : lo < 2 ^ 20) (hh9 : h9 < 2 ^ 20) (hh : hi2 = nI h9 - nI 1) : Ci E 4 kX8_figures [.ref V, .int (nI lo), .int hi2] G (fun r G1 => (∃ v, numF y n (skp y n p) lo h9 = some v ∧ r = nI v ∧ G1 = (gs G V (mO V th hi ac tp ba (nI n) (nI (tokE y n (skp y n p))) (-1) dp io hm_ we sh so))) ∨ (numF y n (skp y n p) lo h9 = none ∧ ∃ p2 v, p2 ≤ n ∧ r = nI v ∧ G1 = (gs G V (mO V th hi ac tp ba (nI n) (nI (p2)) (nI (skp y n p)) dp io hm_ we sh so)))) := by
  refine Ct.intro rfl (by decide) [.ref V, .int (nI lo), .int hi2, .float 0, .float 0] (by simp [Value.category]) (Nat.le_of_ble_eq_true rfl) rfl ?_
  refine w_aload_n dX8_figures_0 rfl ?_
  refine w_getf dX8_figures_1 fl_X8_25 (by first | assumption | exact gs_at | (rw [gs_ne (by omega)]; (first | assumption | exact gs_at | (rw [gs_ne (by omega)]; (first | assumption | exact gs_at | (rw [gs_ne (by omega)]; (first | assumption | exact gs_at | (rw [gs_ne (by omega)]; (first | assumption | exact gs_at))))))))) rfl ?_
  refine w_iconst (v := (-1)) dX8_figures_4 (by decide) ?_
  refine w_icmp_eq (tgt := 10) dX8_figures_5 (by decide) (fun c_5 => ?_) (fun c_5 => ?_)
  · skip
    refine w_aload_n dX8_figures_10 rfl ?_
    refine wV0i dX8_figures_11 lk_X8_79 rfl (by first | assumption | exact gs_at | (rw [gs_ne (by omega)]; (first | assumption | exact gs_at | (rw [gs_ne (by omega)]; (first | assumption | exact gs_at | (rw [gs_ne (by omega)]; (first | assumption | exact gs_at | (rw [gs_ne (by omega)]; (first | assumption | exact gs_at))))))))) rfl rfl (m_place hV hT hn hy hp) (Nat.le_of_ble_eq_true rfl) (Nat.le_of_ble_eq_true rfl) (Nat.le_of_ble_eq_true rfl) (Nat.le_of_ble_eq_true rfl) (fun r_11 G1 h_11 => ?_)
    obtain ⟨e1, e2⟩ := h_11
    subst e1
    subst e2
    have hT1 := hT.gs (x := mO V th hi ac tp ba (nI n) (nI (skp y n p)) (-1) dp io hm_ we sh so)
    refine w_istore_3 dX8_figures_14 rfl ?_
    refine w_iconst (v := nI 0) dX8_figures_15 (by decide) ?_
    refine w_istore_4 dX8_figures_16 rfl ?_
    have hs1 := (skp_le (y := y) hp).2
    exact ml_fig18 hn hy hlo hh9 hh hs1 (fun v e => ⟨_, rfl, Or.inl ⟨v, e, rfl, rfl⟩⟩) (fun e p2 v h => ⟨_, rfl, Or.inr ⟨e, p2, v, h, rfl, rfl⟩⟩) 5 0 (by omega) (by omega) (by omega) (fun i h => absurd h (by omega)) hT1
  · skip
    exact absurd rfl c_5
