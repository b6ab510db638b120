/-! the model: reading line by line; the deed -/
theorem sign_eq {y : Nat → Nat} {n p c : Nat} (hn : n ≤ 400) (hc : ¬ (97 ≤ c ∧ c ≤ 122) ∧ ¬ (48 ≤ c ∧ c ≤ 57)) : atB y n p [c] = true ↔ p < n ∧ y p = c := by
  rw [atB_iff]
  unfold atW tokE
  constructor
  · intro ⟨h1, h2⟩
    have h3 : c = y (p + 0) := h2 0 (Nat.succ_pos 0)
    rw [Nat.add_zero] at h3
    by_cases hp : p < n
    · exact ⟨hp, h3.symm⟩
    · rw [if_neg hp] at h1
      exact absurd h1 (by show ¬ p = p + 1; omega)
  · intro ⟨h1, h2⟩
    rw [if_pos h1, if_neg (by omega), if_neg (by omega)]
    refine ⟨rfl, fun j hj => ?_⟩
    have hj0 : j = 0 := by have : j < 1 := hj; omega
    subst hj0
    show c = y (p + 0)
    rw [Nat.add_zero]; exact h2.symm
theorem sign_tok {y : Nat → Nat} {n p c : Nat} (h : atB y n p [c] = true) : tokE y n p = p + 1 := (atB_iff.mp h).1
theorem ml_rdX0 {E : EV} {Q : OC → AH → Prop} {V i : Nat} {lw : Int32} {G : AH} (hQ : Q (.inl (some (.int (nI (i))))) G) : Wp E 55 0 0 kX8_read Q G (0, 0) 23 [.ref V, .int lw, .int (nI 0), .int (nI i)] [] := by
  refine w_iload_n dX8_read_23 rfl ?_
  refine w_ifN_eq (tgt := 144) dX8_read_24 (by decide) (fun c_24 => ?_) (fun c_24 => ?_)
  · skip
    refine w_iload_n dX8_read_144 rfl ?_
    refine w_iret dX8_read_145 rfl (Nat.le_of_ble_eq_true rfl) (Nat.le_of_ble_eq_true rfl) ?_
    exact hQ
  · skip
    exact absurd rfl c_24
theorem ml_rdX1 {E : EV} {Q : OC → AH → Prop} {V n p : Nat} {th hi ac tp ba fa dp io hm_ we sh so : Int32} {G : AH} {i : Nat} {lw : Int32} (hV : G.1 V = some (mO V th hi ac tp ba (nI n) (nI (p)) (fa) dp io hm_ we sh so)) (hf : ¬ fa = -1) (hQ : Q (.inl (some (.int (nI (i))))) G) : Wp E 55 0 0 kX8_read Q G (0, 0) 23 [.ref V, .int lw, .int (nI 1), .int (nI i)] [] := by
  refine w_iload_n dX8_read_23 rfl ?_
  refine w_ifN_eq (tgt := 144) dX8_read_24 (by decide) (fun c_24 => ?_) (fun c_24 => ?_)
  · skip
    exact absurd c_24 (by decide)
  · skip
    refine w_aload_n dX8_read_27 rfl ?_
    refine w_getf dX8_read_28 fl_X8_25 (by first | assumption | exact gs_at | (rw [gs_ne (by omega)]; (first | assumption | exact gs_at | (rw [gs_ne (by omega)]; (first | assumption | exact gs_at | (rw [gs_ne (by omega)]; (first | assumption | exact gs_at | (rw [gs_ne (by omega)]; (first | assumption | exact gs_at))))))))) rfl ?_
    refine w_iconst (v := (-1)) dX8_read_31 (by decide) ?_
    refine w_icmp_ne (tgt := 144) dX8_read_32 (by decide) (fun c_32 => ?_) (fun c_32 => ?_)
    · skip
      refine w_iload_n dX8_read_144 rfl ?_
      refine w_iret dX8_read_145 rfl (Nat.le_of_ble_eq_true rfl) (Nat.le_of_ble_eq_true rfl) ?_
      exact hQ
    · skip
      exact absurd c_32 hf
theorem ml_rd80 {E : EV} {Q : OC → AH → Prop} {V n p : Nat} {th hi ac tp ba fa dp io hm_ we sh so : Int32} {y : Nat → Nat} {G : AH} {lw : Int32} {i : Nat} (hV : G.1 V = some (mO V th hi ac tp ba (nI n) (nI (p)) (fa) dp io hm_ we sh so)) (hT : TxP G V ba y n) (hn : n ≤ 400) (hy : ∀ i, y i < 256) (hp : p ≤ n)
    (hbad : ¬ fa = -1 → ∀ p2, p2 ≤ n → Q (.inl (some (.int (nI (i + 1))))) (gs G V (mO V th hi ac tp ba (nI n) (nI (p2)) (fa) dp io hm_ we sh so)))
    (hend : fa = -1 → skp y n p = n → Q (.inl (some (.int (nI (i + 1))))) (gs G V (mO V th hi ac tp ba (nI n) (nI (skp y n p)) (-1) dp io hm_ we sh so)))
    (hsem : fa = -1 → skp y n p < n → y (skp y n p) = 59 → Wp E 55 0 0 kX8_read Q (gs G V (mO V th hi ac tp ba (nI n) (nI (skp y n p + 1)) (-1) dp io hm_ we sh so)) (0, 0) 23 [.ref V, .int lw, .int (nI 1), .int (nI (i + 1))] [])
    (hno : fa = -1 → skp y n p < n → ¬ y (skp y n p) = 59 → Q (.inl (some (.int (nI (i + 1))))) (gs G V (mO V th hi ac tp ba (nI n) (nI (skp y n p)) (nI (skp y n p)) dp io hm_ we sh so))) : Wp E 55 0 0 kX8_read Q G (0, 0) 80 [.ref V, .int lw, .int (nI 1), .int (nI i)] [] := by
  first | refine w_iinc_3 dX8_read_80 (nI_inc _) rfl ?_ | refine w_iinc_3 dX8_read_80 rfl rfl ?_
  refine w_aload_n dX8_read_83 rfl ?_
  refine wV0n dX8_read_84 lk_X8_66 rfl (by first | assumption | exact gs_at | (rw [gs_ne (by omega)]; (first | assumption | exact gs_at | (rw [gs_ne (by omega)]; (first | assumption | exact gs_at | (rw [gs_ne (by omega)]; (first | assumption | exact gs_at | (rw [gs_ne (by omega)]; (first | assumption | exact gs_at))))))))) rfl rfl (m_skip hV hT hn hy hp) (Nat.le_of_ble_eq_true rfl) (Nat.le_of_ble_eq_true rfl) (Nat.le_of_ble_eq_true rfl) (Nat.le_of_ble_eq_true rfl) ?_
  have hs1 := (skp_le (y := y) hp).2
  have hT1 := hT.gs (x := mO V th hi ac tp ba (nI n) (nI (skp y n p)) (fa) dp io hm_ we sh so)
  refine w_aload_n dX8_read_87 rfl ?_
  refine w_getf dX8_read_88 fl_X8_25 (by first | assumption | exact gs_at | (rw [gs_ne (by omega)]; (first | assumption | exact gs_at | (rw [gs_ne (by omega)]; (first | assumption | exact gs_at | (rw [gs_ne (by omega)]; (first | assumption | exact gs_at | (rw [gs_ne (by omega)]; (first | assumption | exact gs_at))))))))) rfl ?_
  refine w_iconst (v := (-1)) dX8_read_91 (by decide) ?_
  refine w_icmp_ne (tgt := 106) dX8_read_92 (by decide) (fun c_92 => ?_) (fun c_92 => ?_)
  · try simp only [nI_b2, Decidable.not_not, ne_eq] at c_92
    refine w_iconst (v := nI 0) dX8_read_106 (by decide) ?_
    refine w_istore_2 dX8_read_107 rfl ?_
    refine w_goto (tgt := 23) dX8_read_108 (by decide) ?_
    exact ml_rdX0 (hbad c_92 _ hs1)
  · try simp only [nI_b2, Decidable.not_not, ne_eq] at c_92
    subst c_92
    refine w_aload_n dX8_read_95 rfl ?_
    refine w_getf dX8_read_96 fl_X8_56 (by first | assumption | exact gs_at | (rw [gs_ne (by omega)]; (first | assumption | exact gs_at | (rw [gs_ne (by omega)]; (first | assumption | exact gs_at | (rw [gs_ne (by omega)]; (first | assumption | exact gs_at | (rw [gs_ne (by omega)]; (first | assumption | exact gs_at))))))))) rfl ?_
    refine w_aload_n dX8_read_99 rfl ?_
    refine w_getf dX8_read_100 fl_X8_59 (by first | assumption | exact gs_at | (rw [gs_ne (by omega)]; (first | assumption | exact gs_at | (rw [gs_ne (by omega)]; (first | assumption | exact gs_at | (rw [gs_ne (by omega)]; (first | assumption | exact gs_at | (rw [gs_ne (by omega)]; (first | assumption | exact gs_at))))))))) rfl ?_
    refine w_icmp_ne (tgt := 111) dX8_read_103 (by decide) (fun c_103 => ?_) (fun c_103 => ?_)
    · try simp only [nI_b2, Decidable.not_not, ne_eq] at c_103
      rw [nI_eq (by omega) (by omega)] at c_103
      have hlt : skp y n p < n := by omega
      refine w_aload_n dX8_read_111 rfl ?_
      refine w_bipush (v := nI 59) dX8_read_112 (by decide) ?_
      refine wV1i dX8_read_114 lk_X8_141 rfl (by first | assumption | exact gs_at | (rw [gs_ne (by omega)]; (first | assumption | exact gs_at | (rw [gs_ne (by omega)]; (first | assumption | exact gs_at | (rw [gs_ne (by omega)]; (first | assumption | exact gs_at | (rw [gs_ne (by omega)]; (first | assumption | exact gs_at))))))))) rfl rfl (m_isSign (c := 59) gs_at hT1 hn hy hs1 (by decide)) (Nat.le_of_ble_eq_true rfl) (Nat.le_of_ble_eq_true rfl) (Nat.le_of_ble_eq_true rfl) (Nat.le_of_ble_eq_true rfl) (fun r_114 G1 h_114 => ?_)
      obtain ⟨k2, k3⟩ := h_114
      rw [skp_skp hn, gs_gs] at k3
      rw [skp_skp hn] at k2
      subst k2
      subst k3
      refine w_ifN_eq (tgt := 133) dX8_read_117 (by decide) (fun c_117 => ?_) (fun c_117 => ?_)
      · try simp only [nI_b2, Decidable.not_not, ne_eq] at c_117
        refine w_aload_n dX8_read_133 rfl ?_
        refine w_aload_n dX8_read_134 rfl ?_
        refine w_getf dX8_read_135 fl_X8_56 (by first | assumption | exact gs_at | (rw [gs_ne (by omega)]; (first | assumption | exact gs_at | (rw [gs_ne (by omega)]; (first | assumption | exact gs_at | (rw [gs_ne (by omega)]; (first | assumption | exact gs_at | (rw [gs_ne (by omega)]; (first | assumption | exact gs_at))))))))) rfl ?_
        refine wV1n dX8_read_138 lk_X8_82 rfl (by first | assumption | exact gs_at | (rw [gs_ne (by omega)]; (first | assumption | exact gs_at | (rw [gs_ne (by omega)]; (first | assumption | exact gs_at | (rw [gs_ne (by omega)]; (first | assumption | exact gs_at | (rw [gs_ne (by omega)]; (first | assumption | exact gs_at))))))))) rfl rfl (m_wrongF gs_at) (Nat.le_of_ble_eq_true rfl) (Nat.le_of_ble_eq_true rfl) (Nat.le_of_ble_eq_true rfl) (Nat.le_of_ble_eq_true rfl) ?_
        rw [gs_gs]
        refine w_goto (tgt := 23) dX8_read_141 (by decide) ?_
        exact ml_rdX1 gs_at (nI_nm1 (show skp y n p < 2 ^ 31 by omega)) (hno rfl hlt (fun h => c_117 ⟨hlt, h⟩))
      · try simp only [nI_b2, Decidable.not_not, ne_eq] at c_117
        refine w_aload_n dX8_read_120 rfl ?_
        refine w_dup dX8_read_121 rfl ?_
        refine w_getf dX8_read_122 fl_X8_56 (by first | assumption | exact gs_at | (rw [gs_ne (by omega)]; (first | assumption | exact gs_at | (rw [gs_ne (by omega)]; (first | assumption | exact gs_at | (rw [gs_ne (by omega)]; (first | assumption | exact gs_at | (rw [gs_ne (by omega)]; (first | assumption | exact gs_at))))))))) rfl ?_
        refine w_iconst (v := nI 1) dX8_read_125 (by decide) ?_
        first | refine w_iaddN dX8_read_126 ?_ | refine w_iadd dX8_read_126 ?_
        refine w_putf dX8_read_127 fl_X8_56 (by first | assumption | exact gs_at | (rw [gs_ne (by omega)]; (first | assumption | exact gs_at | (rw [gs_ne (by omega)]; (first | assumption | exact gs_at | (rw [gs_ne (by omega)]; (first | assumption | exact gs_at | (rw [gs_ne (by omega)]; (first | assumption | exact gs_at))))))))) (by simp) rfl rfl ?_
        refine w_goto (tgt := 23) dX8_read_130 (by decide) ?_
        (rw [gs_gs]; exact hsem rfl hlt c_117.2)
    · try simp only [nI_b2, Decidable.not_not, ne_eq] at c_103
      rw [nI_eq (by omega) (by omega)] at c_103
      refine w_iconst (v := nI 0) dX8_read_106 (by decide) ?_
      refine w_istore_2 dX8_read_107 rfl ?_
      refine w_goto (tgt := 23) dX8_read_108 (by decide) ?_
      exact ml_rdX0 (hend rfl (by omega))
theorem rdw_bad {y : Nat → Nat} {n : Nat} {u : RS × ST} (h : ¬ u.1.2 = -1) : rdWrong y n u = u.1.2 := by
  unfold rdWrong refW
  repeat' split
  all_goals first | rfl | (rename_i h9; exact absurd h9 h)
theorem rdw_end {y : Nat → Nat} {n : Nat} {u : RS × ST} (h : n ≤ u.1.1) : rdWrong y n u = u.1.2 := by
  unfold rdWrong
  rw [if_pos h]
theorem rdw_no {y : Nat → Nat} {n : Nat} {u : RS × ST} (h : ¬ n ≤ u.1.1) (hw : u.1.2 = -1) : rdWrong y n u = nI u.1.1 := by
  unfold rdWrong refW
  rw [if_neg h, if_pos hw]
def RPost (G : AH) (V n : Nat) (th hi ac tp ba dp io hm_ we sh so : Int32) (y : Nat → Nat) (mm : Nat → Int32) (sd : Int32) (u : RS × ST) (G1 : AH) : Prop := ∃ p2 nn, p2 ≤ n ∧ G1 = gs (gs G (V + 1) (aI 750 nn)) V (mO V th hi ac tp ba (nI n) (nI (p2)) (rdWrong y n u) dp io hm_ we sh so) ∧ Keep mm nn ∧ (rdWrong y n u = -1 → MoR nn u.2 sd)
theorem ml_rdD {E : EV} {Q : OC → AH → Prop} {V n : Nat} {th hi ac tp ba dp io hm_ we sh so sd : Int32} {y : Nat → Nat} {mm : Nat → Int32} {G : AH} {UU : RS × ST} (hba : ba = -1) (hT5 : G.1 (V + 5) = some (aI 400 (fun i => nI (y i)))) (hn : n ≤ 400) (hy : ∀ i, y i < 256) (hQ : ∀ j p2 nn, p2 ≤ n → Keep mm nn → (rdWrong y n UU = -1 → MoR nn UU.2 sd) → Q (.inl (some (.int (nI (j))))) (gs (gs G (V + 1) (aI 750 nn)) V (mO V th hi ac tp ba (nI n) (nI (p2)) (rdWrong y n UU) dp io hm_ we sh so))) : ∀ (k i p : Nat) (nn : Nat → Int32) (T : ST), i + k = 15 → i ≤ 14 → p ≤ n → Keep mm nn → MoR nn T sd → Bd T → rdGo y n k i ((skp y n p, -1), T) = UU → Wp E 55 0 0 kX8_read Q (gs (gs G (V + 1) (aI 750 nn)) V (mO V th hi ac tp ba (nI n) (nI (p)) (-1) dp io hm_ we sh so)) (0, 0) 23 [.ref V, .int (nI 0), .int (nI 1), .int (nI i)] [] := by
  intro k
  induction k with
  | zero =>
    intro i p nn T hik hi4
    exact absurd hik (by omega)
  | succ k ih =>
    intro i p nn T hik hi4 hp hK hR hB hU
    have hV : (gs (gs G (V + 1) (aI 750 nn)) V (mO V th hi ac tp ba (nI n) (nI (p)) (-1) dp io hm_ we sh so)).1 V = some (mO V th hi ac tp ba (nI n) (nI (p)) (-1) dp io hm_ we sh so) := gs_at
    have hT : TxP (gs (gs G (V + 1) (aI 750 nn)) V (mO V th hi ac tp ba (nI n) (nI (p)) (-1) dp io hm_ we sh so)) V ba y n := Or.inl ⟨hba, (gs_ne (by omega)).trans ((gs_ne (by omega)).trans hT5)⟩
    have hm : (gs (gs G (V + 1) (aI 750 nn)) V (mO V th hi ac tp ba (nI n) (nI (p)) (-1) dp io hm_ we sh so)).1 (V + 1) = some (aI 750 nn) := (gs_ne (by omega)).trans gs_at
    have hsp := (skp_le (y := y) hp).2
    rw [rdGo] at hU
    refine w_iload_n dX8_read_23 rfl ?_
    refine w_ifN_eq (tgt := 144) dX8_read_24 (by decide) (fun c_24 => ?_) (fun c_24 => ?_)
    · skip
      exact absurd c_24 (by decide)
    · skip
      refine w_aload_n dX8_read_27 rfl ?_
      refine w_getf dX8_read_28 fl_X8_25 (by first | assumption | exact gs_at | (rw [gs_ne (by omega)]; (first | assumption | exact gs_at | (rw [gs_ne (by omega)]; (first | assumption | exact gs_at | (rw [gs_ne (by omega)]; (first | assumption | exact gs_at | (rw [gs_ne (by omega)]; (first | assumption | exact gs_at))))))))) rfl ?_
      refine w_iconst (v := (-1)) dX8_read_31 (by decide) ?_
      refine w_icmp_ne (tgt := 144) dX8_read_32 (by decide) (fun c_32 => ?_) (fun c_32 => ?_)
      · skip
        exact absurd rfl c_32
      · skip
        refine w_aload_n dX8_read_35 rfl ?_
        refine wV0n dX8_read_36 lk_X8_66 rfl (by first | assumption | exact gs_at | (rw [gs_ne (by omega)]; (first | assumption | exact gs_at | (rw [gs_ne (by omega)]; (first | assumption | exact gs_at | (rw [gs_ne (by omega)]; (first | assumption | exact gs_at | (rw [gs_ne (by omega)]; (first | assumption | exact gs_at))))))))) rfl rfl (m_skip hV hT hn hy hp) (Nat.le_of_ble_eq_true rfl) (Nat.le_of_ble_eq_true rfl) (Nat.le_of_ble_eq_true rfl) (Nat.le_of_ble_eq_true rfl) ?_
        rw [gs_gs]
        have hTs : TxP (gs (gs G (V + 1) (aI 750 nn)) V (mO V th hi ac tp ba (nI n) (nI (skp y n p)) (-1) dp io hm_ we sh so)) V ba y n := Or.inl ⟨hba, (gs_ne (by omega)).trans ((gs_ne (by omega)).trans hT5)⟩
        refine w_iload_n dX8_read_39 rfl ?_
        refine w_iload_n dX8_read_40 rfl ?_
        refine w_ifN_eq (tgt := 49) dX8_read_41 (by decide) (fun c_41 => ?_) (fun c_41 => ?_)
        · skip
          refine w_bipush (v := nI 14) dX8_read_49 (by decide) ?_
          refine w_icmp_ne (tgt := 65) dX8_read_51 (by decide) (fun c_51 => ?_) (fun c_51 => ?_)
          · skip
            have hi14 : ¬ i = 14 := fun h => c_51 (by rw [h])
            refine w_iload_n dX8_read_65 rfl ?_
            refine w_ifN_eq (tgt := 76) dX8_read_66 (by decide) (fun c_66 => ?_) (fun c_66 => ?_)
            · skip
              refine w_aload_n dX8_read_76 rfl ?_
              refine wV0d dX8_read_77 lk_X8_138 rfl (by first | assumption | exact gs_at | (rw [gs_ne (by omega)]; (first | assumption | exact gs_at | (rw [gs_ne (by omega)]; (first | assumption | exact gs_at | (rw [gs_ne (by omega)]; (first | assumption | exact gs_at | (rw [gs_ne (by omega)]; (first | assumption | exact gs_at))))))))) rfl rfl (m_deedLine (p := skp y n p) gs_at hTs hn hy hsp ((gs_ne (by omega)).trans gs_at) hR hB) (Nat.le_of_ble_eq_true rfl) (Nat.le_of_ble_eq_true rfl) (Nat.le_of_ble_eq_true rfl) (Nat.le_of_ble_eq_true rfl) (fun G1 h_77 => ?_)
              obtain ⟨p2, n2, q1, q2, q3, q4⟩ := h_77
              rw [skp_skp hn] at q2 q4
              rw [gs_comm (a := V) (b := V + 1) (by omega), gs_gs, gs_gs] at q2
              subst q2
              have hTz : TxP (gs (gs G (V + 1) (aI 750 n2)) V (mO V th hi ac tp ba (nI n) (nI (p2)) ((rdLine y n (skp y n p, -1) T).1.2) dp io hm_ we sh so)) V ba y n := Or.inl ⟨hba, (gs_ne (by omega)).trans ((gs_ne (by omega)).trans hT5)⟩
              have e : rdStep y n i ((skp y n p, -1), T) = rdLine y n (skp y n p, -1) T := by unfold rdStep; rw [if_neg hi14]
              have qB : (rdLine y n (skp y n p, -1) T).1.2 = -1 → Bd (rdLine y n (skp y n p, -1) T).2 := rdLine_ok hsp hn hB
              rw [e] at hU
              clear e
              generalize rdLine y n (skp y n p, -1) T = W at *
              refine ml_rd80 gs_at hTz hn hy q1 (fun hw p3 hp3 => ?_) (fun hw he => ?_) (fun hw hl h59 => ?_) (fun hw hl h59 => ?_)
              · rw [if_neg hw] at hU
                subst hU
                have h9 := hQ (i + 1) p3 n2 hp3 (hK.tr q3) (fun h => absurd ((rdw_bad (u := W) hw).symm.trans h) hw)
                rw [gs_gs]
                rw [rdw_bad hw] at h9
                exact h9
              · obtain ⟨q5, q6⟩ := q4 hw
                rw [if_pos hw] at hU
                have hns : ¬ atB y n W.1.1 [59] = true := fun h => by have := ((sign_eq hn (by decide)).mp h).1; rw [← q5, he] at this; omega
                rw [if_neg hns] at hU
                subst hU
                have hwe : rdWrong y n W = -1 := by rw [rdw_end (by rw [← q5, he]; exact Nat.le_refl _)]; exact hw
                have h9 := hQ (i + 1) (skp y n p2) n2 (skp_le q1).2 (hK.tr q3) (fun _ => q6)
                rw [gs_gs]
                rw [hwe] at h9
                exact h9
              · obtain ⟨q5, q6⟩ := q4 hw
                rw [if_pos hw] at hU
                have hsg : atB y n W.1.1 [59] = true := (sign_eq hn (by decide)).mpr (by rw [← q5]; exact ⟨hl, h59⟩)
                rw [if_pos hsg] at hU
                have hx : nxt y n W.1.1 = skp y n (skp y n p2 + 1) := by rw [← skp_nxt, sign_tok hsg, ← q5]
                rw [hx, hw] at hU
                rw [gs_gs]
                exact ih (i + 1) (skp y n p2 + 1) n2 W.2 (by omega) (by omega) (by omega) (hK.tr q3) q6 (qB hw) hU
              · obtain ⟨q5, q6⟩ := q4 hw
                rw [if_pos hw] at hU
                have hns : ¬ atB y n W.1.1 [59] = true := fun h => h59 (by rw [q5]; exact ((sign_eq hn (by decide)).mp h).2)
                rw [if_neg hns] at hU
                subst hU
                have hwe : rdWrong y n W = nI (skp y n p2) := by rw [rdw_no (by rw [← q5]; omega) hw, q5]
                have h9 := hQ (i + 1) (skp y n p2) n2 (skp_le q1).2 (hK.tr q3) (fun h => absurd (hwe.symm.trans h) (nI_nm1 (by have := (skp_le (y := y) q1).2; omega)))
                rw [gs_gs]
                rw [hwe] at h9
                exact h9
            · skip
              exact absurd rfl c_66
          · skip
            rw [nI_eq (by omega) (by omega)] at c_51
            subst c_51
            refine w_aload_n dX8_read_54 rfl ?_
            refine w_aload_n dX8_read_55 rfl ?_
            refine w_getf dX8_read_56 fl_X8_56 (by first | assumption | exact gs_at | (rw [gs_ne (by omega)]; (first | assumption | exact gs_at | (rw [gs_ne (by omega)]; (first | assumption | exact gs_at | (rw [gs_ne (by omega)]; (first | assumption | exact gs_at | (rw [gs_ne (by omega)]; (first | assumption | exact gs_at))))))))) rfl ?_
            refine wV1n dX8_read_59 lk_X8_82 rfl (by first | assumption | exact gs_at | (rw [gs_ne (by omega)]; (first | assumption | exact gs_at | (rw [gs_ne (by omega)]; (first | assumption | exact gs_at | (rw [gs_ne (by omega)]; (first | assumption | exact gs_at | (rw [gs_ne (by omega)]; (first | assumption | exact gs_at))))))))) rfl rfl (m_wrongF gs_at) (Nat.le_of_ble_eq_true rfl) (Nat.le_of_ble_eq_true rfl) (Nat.le_of_ble_eq_true rfl) (Nat.le_of_ble_eq_true rfl) ?_
            rw [gs_gs]
            refine w_goto (tgt := 80) dX8_read_62 (by decide) ?_
            have e : rdStep y n 14 ((skp y n p, -1), T) = ((skp y n p, nI (skp y n p)), T) := by unfold rdStep; rw [if_pos rfl]; exact Prod.ext (Prod.ext rfl (if_pos rfl : (if (-1 : Int32) = -1 then nI (skp y n p) else -1) = nI (skp y n p))) rfl
            rw [e, if_neg (show ¬ nI (skp y n p) = -1 from nI_nm1 (by omega))] at hU
            subst hU
            have hTz : TxP (gs (gs G (V + 1) (aI 750 nn)) V (mO V th hi ac tp ba (nI n) (nI (skp y n p)) (nI (skp y n p)) dp io hm_ we sh so)) V ba y n := Or.inl ⟨hba, (gs_ne (by omega)).trans ((gs_ne (by omega)).trans hT5)⟩
            have hnf : ¬ nI (skp y n p) = -1 := nI_nm1 (by omega)
            refine ml_rd80 gs_at hTz hn hy hsp (fun hw p3 hp3 => ?_) (fun hw he => absurd hw hnf) (fun hw hl h59 => absurd hw hnf) (fun hw hl h59 => absurd hw hnf)
            have h9 := hQ (14 + 1) p3 nn hp3 hK (fun h => absurd ((rdw_bad (u := ((skp y n p, nI (skp y n p)), T)) hnf).symm.trans h) hnf)
            rw [gs_gs]
            rw [rdw_bad (u := ((skp y n p, nI (skp y n p)), T)) hnf] at h9
            exact h9
        · skip
          exact absurd rfl c_41
theorem m_readD {E : EV} {V n : Nat} {th hi ac tp ba dp io hm_ we sh so sd : Int32} {y : Nat → Nat} {mm : Nat → Int32} {G : AH} {T : ST} (hV : G.1 V = some (mO V th hi ac tp ba (nI n) (nI (0)) (-1) dp io hm_ we sh so)) (hba : ba = -1) (hT5 : G.1 (V + 5) = some (aI 400 (fun i => nI (y i)))) (hn : n ≤ 400) (hy : ∀ i, y i < 256) (hm : G.1 (V + 1) = some (aI 750 mm)) (hR : MoR mm T sd) (hB : Bd T) : Ci E 55 kX8_read [.ref V, .int (nI 0)] G (fun r G1 => RPost G V n th hi ac tp ba dp io hm_ we sh so y mm sd (rdText y n T) G1) := by
  have hT : TxP G V ba y n := Or.inl ⟨hba, hT5⟩
  have hp : 0 ≤ n := Nat.zero_le _
  have hs0 := (skp_le (y := y) hp).2
  have hga : ∀ x, gs (gs G (V + 1) (aI 750 mm)) V x = gs G V x := fun x => by rw [gs_id hm]
  refine Ct.intro rfl (by decide) [.ref V, .int (nI 0), .float 0, .float 0] (by simp [Value.category]) (Nat.le_of_ble_eq_true rfl) rfl ?_
  refine w_aload_n dX8_read_0 rfl ?_
  refine wV0n dX8_read_1 lk_X8_66 rfl (by first | assumption | exact gs_at | (rw [gs_ne (by omega)]; (first | assumption | exact gs_at | (rw [gs_ne (by omega)]; (first | assumption | exact gs_at | (rw [gs_ne (by omega)]; (first | assumption | exact gs_at | (rw [gs_ne (by omega)]; (first | assumption | exact gs_at))))))))) rfl rfl (m_skip hV hT hn hy hp) (Nat.le_of_ble_eq_true rfl) (Nat.le_of_ble_eq_true rfl) (Nat.le_of_ble_eq_true rfl) (Nat.le_of_ble_eq_true rfl) ?_
  refine w_aload_n dX8_read_4 rfl ?_
  refine w_getf dX8_read_5 fl_X8_56 (by first | assumption | exact gs_at | (rw [gs_ne (by omega)]; (first | assumption | exact gs_at | (rw [gs_ne (by omega)]; (first | assumption | exact gs_at | (rw [gs_ne (by omega)]; (first | assumption | exact gs_at | (rw [gs_ne (by omega)]; (first | assumption | exact gs_at))))))))) rfl ?_
  refine w_aload_n dX8_read_8 rfl ?_
  refine w_getf dX8_read_9 fl_X8_59 (by first | assumption | exact gs_at | (rw [gs_ne (by omega)]; (first | assumption | exact gs_at | (rw [gs_ne (by omega)]; (first | assumption | exact gs_at | (rw [gs_ne (by omega)]; (first | assumption | exact gs_at | (rw [gs_ne (by omega)]; (first | assumption | exact gs_at))))))))) rfl ?_
  refine w_icmp_ge (tgt := 19) dX8_read_12 (by decide) (fun c_12 => ?_) (fun c_12 => ?_)
  · try simp (disch := omega) only [nI_b2, Decidable.not_not, nI_ltI, nI_leI, nI_eq, ge_iff_le, gt_iff_lt, ne_eq, Nat.not_lt, Nat.not_le] at c_12
    refine w_iconst (v := nI 0) dX8_read_19 (by decide) ?_
    refine w_istore_2 dX8_read_20 rfl ?_
    refine w_iconst (v := nI 0) dX8_read_21 (by decide) ?_
    refine w_istore_3 dX8_read_22 rfl ?_
    exact ml_rdX0 ⟨_, rfl, skp y n 0, mm, hs0, by rw [hga, rdText, if_pos (by omega), rdw_end (by simp only; omega)], Keep.rf, fun _ => by rw [rdText, if_pos (by omega)]; exact hR⟩
  · try simp (disch := omega) only [nI_b2, Decidable.not_not, nI_ltI, nI_leI, nI_eq, ge_iff_le, gt_iff_lt, ne_eq, Nat.not_lt, Nat.not_le] at c_12
    refine w_iconst (v := nI 1) dX8_read_15 (by decide) ?_
    refine w_goto (tgt := 20) dX8_read_16 (by decide) ?_
    refine w_istore_2 dX8_read_20 rfl ?_
    refine w_iconst (v := nI 0) dX8_read_21 (by decide) ?_
    refine w_istore_3 dX8_read_22 rfl ?_
    have h9 := ml_rdD (E := E) (Q := fun o G1 => ∃ r : Int32, o = .inl (some (.int r)) ∧ RPost G V n th hi ac tp ba dp io hm_ we sh so y mm sd (rdText y n T) G1) (UU := rdGo y n 15 0 ((skp y n 0, -1), T)) hba hT5 hn hy (fun j p2 nn a b c => ⟨_, rfl, p2, nn, a, by rw [rdText, if_neg (by omega)], b, by rw [rdText, if_neg (by omega)]; exact c⟩) 15 0 (skp y n 0) mm T rfl (by decide) hs0 Keep.rf hR hB (by rw [skp_skp hn])
    rw [hga] at h9
    exact h9
