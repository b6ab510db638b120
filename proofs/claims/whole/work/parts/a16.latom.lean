/-! the model: an atom, a condition -/
theorem ml_at138 {E : EV} {Q : OC → AH → Prop} {V n p d : Nat} {th hi ac tp ba fa dp io hm_ we sh so : Int32} {G : AH} {r3 : Int32} {z1 z2 : Value} (hb : Bo r3) (hQ : Q (.inl (some (.int r3))) (gs G V (mO V th hi ac tp ba (nI n) (nI (p)) (fa) (dp - nI 1) io hm_ we sh so))) : Wp E (d) 0 0 kX8_atom Q (gs G V (mO V th hi ac tp ba (nI n) (nI (p)) (fa) (dp) io hm_ we sh so)) (0, 0) 138 [.ref V, z1, z2, .int r3] [] := by
  refine w_aload_n dX8_atom_138 rfl ?_
  refine w_dup dX8_atom_139 rfl ?_
  refine w_getf dX8_atom_140 fl_X8_132 (by first | assumption | exact gs_at | (rw [gs_ne (by omega)]; (first | assumption | exact gs_at | (rw [gs_ne (by omega)]; (first | assumption | exact gs_at | (rw [gs_ne (by omega)]; (first | assumption | exact gs_at | (rw [gs_ne (by omega)]; (first | assumption | exact gs_at))))))))) rfl ?_
  refine w_iconst (v := nI 1) dX8_atom_143 (by decide) ?_
  refine w_isub dX8_atom_144 ?_
  refine w_putf dX8_atom_145 fl_X8_132 (by first | assumption | exact gs_at | (rw [gs_ne (by omega)]; (first | assumption | exact gs_at | (rw [gs_ne (by omega)]; (first | assumption | exact gs_at | (rw [gs_ne (by omega)]; (first | assumption | exact gs_at | (rw [gs_ne (by omega)]; (first | assumption | exact gs_at))))))))) (by simp) rfl rfl ?_
  refine w_iload_n dX8_atom_148 rfl ?_
  refine w_zret dX8_atom_149 rfl hb (by first | exact Nat.le_of_ble_eq_true rfl | omega) (by first | exact Nat.le_of_ble_eq_true rfl | omega) ?_
  rw [gs_gs]
  exact hQ
theorem ml_at128 {E : EV} {Q : OC → AH → Prop} {V n p d : Nat} {th hi ac tp ba fa dp io hm_ we sh so : Int32} {G : AH} {r3 : Int32} {z1 z2 : Value} (hb : Bo r3) (hQ : Q (.inl (some (.int r3))) (gs G V (mO V th hi ac tp ba (nI n) (nI (p + 1)) (fa) (dp - nI 1) io hm_ we sh so))) : Wp E (d) 0 0 kX8_atom Q (gs G V (mO V th hi ac tp ba (nI n) (nI (p)) (fa) (dp) io hm_ we sh so)) (0, 0) 128 [.ref V, z1, z2, .int r3] [] := by
  refine w_aload_n dX8_atom_128 rfl ?_
  refine w_dup dX8_atom_129 rfl ?_
  refine w_getf dX8_atom_130 fl_X8_56 (by first | assumption | exact gs_at | (rw [gs_ne (by omega)]; (first | assumption | exact gs_at | (rw [gs_ne (by omega)]; (first | assumption | exact gs_at | (rw [gs_ne (by omega)]; (first | assumption | exact gs_at | (rw [gs_ne (by omega)]; (first | assumption | exact gs_at))))))))) rfl ?_
  refine w_iconst (v := nI 1) dX8_atom_133 (by decide) ?_
  first | refine w_iaddN dX8_atom_134 ?_ | refine w_iadd dX8_atom_134 ?_
  refine w_putf dX8_atom_135 fl_X8_56 (by first | assumption | exact gs_at | (rw [gs_ne (by omega)]; (first | assumption | exact gs_at | (rw [gs_ne (by omega)]; (first | assumption | exact gs_at | (rw [gs_ne (by omega)]; (first | assumption | exact gs_at | (rw [gs_ne (by omega)]; (first | assumption | exact gs_at))))))))) (by simp) rfl rfl ?_
  rw [gs_gs]
  exact ml_at138 hb hQ
theorem ml_atN {E : EV} {Q : OC → AH → Prop} {V n b : Nat} {th hi ac tp ba io hm_ we sh so : Int32} {y : Nat → Nat} {G : AH} {F : Nat → Int32} {z1 z3 : Value} {j de : Nat} (hA : AtC E (11 + 3 * j) kX8_atom (fun y n => pAtom y n j) j (2 * j) (nI (de + 1))) (hT : TxP G V ba y n) (hn : n ≤ 400) (hy : ∀ i, y i < 256) (hF : G.1 (V + 6) = some (aI 7 F)) (hb0 : b ≤ n) (hj : 2 * (j + 1) ≤ 30) (hd : de < 6) (hN : atB y n b [110, 111, 116] = true) (hQ : ∀ (r : Int32) (G1 : AH), LPo G V n th hi ac tp ba (nI de) io hm_ we sh so y (n + (j + 1)) (pAtom y n (j + 1) (b, -1)).1 G1 → Bo r → ((pAtom y n (j + 1) (b, -1)).1.2 = -1 → ∀ T k, FOK T k F io hm_ → ∃ v, r = nI v ∧ ∀ b9, b9 + 2 * (j + 1) ≤ 60 → EvV T k b9 (pAtom y n (j + 1) (b, -1)).2 v) → Q (.inl (some (.int r))) G1) : Wp E (11 + 3 * (j + 1)) 0 0 kX8_atom Q (gs G V (mO V th hi ac tp ba (nI n) (nI (tokE y n b)) (-1) (nI de) io hm_ we sh so)) (0, 0) 56 [.ref V, z1, .int (nI 1), z3] [] := by
  have e : (pAtom y n (j + 1) (b, -1)) = ((pAtom y n j (tkS y n (b, -1))).1, (pAtom y n j (tkS y n (b, -1))).2 ++ [-13]) := by rw [pAtom]; exact if_pos hN
  rw [e] at hQ
  refine w_aload_n dX8_atom_56 rfl ?_
  refine w_dup dX8_atom_57 rfl ?_
  refine w_getf dX8_atom_58 fl_X8_132 (by first | assumption | exact gs_at | (rw [gs_ne (by omega)]; (first | assumption | exact gs_at | (rw [gs_ne (by omega)]; (first | assumption | exact gs_at | (rw [gs_ne (by omega)]; (first | assumption | exact gs_at | (rw [gs_ne (by omega)]; (first | assumption | exact gs_at))))))))) rfl ?_
  refine w_iconst (v := nI 1) dX8_atom_61 (by decide) ?_
  first | refine w_iaddN dX8_atom_62 ?_ | refine w_iadd dX8_atom_62 ?_
  refine w_putf dX8_atom_63 fl_X8_132 (by first | assumption | exact gs_at | (rw [gs_ne (by omega)]; (first | assumption | exact gs_at | (rw [gs_ne (by omega)]; (first | assumption | exact gs_at | (rw [gs_ne (by omega)]; (first | assumption | exact gs_at | (rw [gs_ne (by omega)]; (first | assumption | exact gs_at))))))))) (by simp) rfl rfl ?_
  rw [gs_gs]
  refine (show Wp E (11 + 3 * (j + 1)) 0 0 kX8_atom Q (gs G V (mO V th hi ac tp ba (nI n) (nI (tokE y n b)) (-1) (nI (de + 1)) io hm_ we sh so)) (0, 0) 66 [.ref V, z1, .int (nI 1), z3] [] from ?_)
  refine w_iconst (v := nI 0) dX8_atom_66 (by decide) ?_
  refine w_istore_3 dX8_atom_67 rfl ?_
  refine w_iload_n dX8_atom_68 rfl ?_
  refine w_ifN_eq (tgt := 88) dX8_atom_69 (by decide) (fun c_69 => ?_) (fun c_69 => ?_)
  · try simp only [nI_b2, Decidable.not_not, ne_eq] at c_69
    exact absurd c_69 (by decide)
  · try simp only [nI_b2, Decidable.not_not, ne_eq] at c_69
    refine w_aload_n dX8_atom_72 rfl ?_
    refine wV0i dX8_atom_73 lk_X8_188 rfl (by first | assumption | exact gs_at | (rw [gs_ne (by omega)]; (first | assumption | exact gs_at | (rw [gs_ne (by omega)]; (first | assumption | exact gs_at | (rw [gs_ne (by omega)]; (first | assumption | exact gs_at | (rw [gs_ne (by omega)]; (first | assumption | exact gs_at))))))))) rfl rfl (hA _ _ (tokE y n b) _ _ _ _ _ _ _ _ _ _ _ _ F gs_at hT.gs hn hy (tokE_le hb0).2 ((gs_ne (by omega)).trans hF)) (by first | exact Nat.le_of_ble_eq_true rfl | omega) (by first | exact Nat.le_of_ble_eq_true rfl | omega) (by first | exact Nat.le_of_ble_eq_true rfl | omega) (by first | exact Nat.le_of_ble_eq_true rfl | omega) (fun r_73 G_73 h_73 => ?_)
    have h_73 : LPo (gs G V (mO V th hi ac tp ba (nI n) (nI (tokE y n b)) (-1) (nI (de + 1)) io hm_ we sh so)) V n th hi ac tp ba (nI (de + 1)) io hm_ we sh so y (n + j) (pAtom y n j (tkS y n (b, -1))).1 G_73 ∧ Bo r_73 ∧ ((pAtom y n j (tkS y n (b, -1))).1.2 = -1 → ∀ T k, FOK T k F io hm_ → ∃ v, r_73 = nI v ∧ ∀ b9, b9 + 2 * j ≤ 60 → EvV T k b9 (pAtom y n j (tkS y n (b, -1))).2 v) := h_73
    obtain ⟨g0, gb, g4⟩ := h_73
    replace g0 := g0.base
    obtain ⟨p7, dp7, g1, g2, g3⟩ := g0
    subst g2
    refine w_ifN_ne (tgt := 83) dX8_atom_76 (by decide) (fun c_76 => ?_) (fun c_76 => ?_)
    · try simp only [nI_b2, Decidable.not_not, ne_eq] at c_76
      refine w_iconst (v := nI 0) dX8_atom_83 (by decide) ?_
      refine w_istore_3 dX8_atom_84 rfl ?_
      refine w_goto (tgt := 138) dX8_atom_85 (by decide) ?_
      refine ml_at138 (by decide) (hQ _ _ ⟨p7, dp7 - nI 1, by omega, rfl, fun h => ⟨(g3 h).1, (g3 h).2.1, by rw [(g3 h).2.2, pk_sub (by omega)]; rfl⟩⟩ (by decide) (fun h T k hf => ?_))
      obtain ⟨v, e1, u1⟩ := g4 h T k hf
      have v1 := (u1 0 (by omega)).1
      have hv0 : r_73 = nI 0 ↔ v = 0 := by rw [e1, nI_eq (by omega) (by omega)]
      rw [hv0] at c_76
      exact ⟨1 - v, by first | (rw [show 1 - v = 0 by omega]; done) | (rw [show 1 - v = 1 by omega]; done), fun b9 hb => EvV.not (by omega) (u1 b9 (by omega))⟩
    · try simp only [nI_b2, Decidable.not_not, ne_eq] at c_76
      refine w_iconst (v := nI 1) dX8_atom_79 (by decide) ?_
      refine w_goto (tgt := 84) dX8_atom_80 (by decide) ?_
      refine w_istore_3 dX8_atom_84 rfl ?_
      refine w_goto (tgt := 138) dX8_atom_85 (by decide) ?_
      refine ml_at138 (by decide) (hQ _ _ ⟨p7, dp7 - nI 1, by omega, rfl, fun h => ⟨(g3 h).1, (g3 h).2.1, by rw [(g3 h).2.2, pk_sub (by omega)]; rfl⟩⟩ (by decide) (fun h T k hf => ?_))
      obtain ⟨v, e1, u1⟩ := g4 h T k hf
      have v1 := (u1 0 (by omega)).1
      have hv0 : r_73 = nI 0 ↔ v = 0 := by rw [e1, nI_eq (by omega) (by omega)]
      rw [hv0] at c_76
      exact ⟨1 - v, by first | (rw [show 1 - v = 0 by omega]; done) | (rw [show 1 - v = 1 by omega]; done), fun b9 hb => EvV.not (by omega) (u1 b9 (by omega))⟩
theorem ml_atP {E : EV} {Q : OC → AH → Prop} {V n b : Nat} {th hi ac tp ba io hm_ we sh so : Int32} {y : Nat → Nat} {G : AH} {F : Nat → Int32} {z1 z3 : Value} {j de : Nat} (hA : AtC E (13 + 3 * j) kX8_some (fun y n => pSo y n (pAtom y n j)) j (2 * j + 2) (nI (de + 1))) (hT : TxP G V ba y n) (hn : n ≤ 400) (hy : ∀ i, y i < 256) (hF : G.1 (V + 6) = some (aI 7 F)) (hb0 : b ≤ n) (hj : 2 * (j + 1) ≤ 30) (hd : de < 6) (hN : ¬ atB y n b [110, 111, 116] = true) (hO : atB y n b [40] = true) (hQ : ∀ (r : Int32) (G1 : AH), LPo G V n th hi ac tp ba (nI de) io hm_ we sh so y (n + (j + 1)) (pAtom y n (j + 1) (b, -1)).1 G1 → Bo r → ((pAtom y n (j + 1) (b, -1)).1.2 = -1 → ∀ T k, FOK T k F io hm_ → ∃ v, r = nI v ∧ ∀ b9, b9 + 2 * (j + 1) ≤ 60 → EvV T k b9 (pAtom y n (j + 1) (b, -1)).2 v) → Q (.inl (some (.int r))) G1) : Wp E (11 + 3 * (j + 1)) 0 0 kX8_atom Q (gs G V (mO V th hi ac tp ba (nI n) (nI (b)) (-1) (nI de) io hm_ we sh so)) (0, 0) 56 [.ref V, z1, .int (nI 0), z3] [] := by
  have e : (pAtom y n (j + 1) (b, -1)) = pPar y n (pSo y n (pAtom y n j) (tkS y n (b, -1))) := by rw [pAtom]; exact (if_neg hN).trans (if_pos hO)
  rw [e] at hQ
  have htk := sign_tok hO
  obtain ⟨a1, a2⟩ := at_nxt hb0 hO
  have hsg := pSo_g (y := y) hn (pAtom_g (y := y) hn j) (s := tkS y n (b, -1)) a2
  refine w_aload_n dX8_atom_56 rfl ?_
  refine w_dup dX8_atom_57 rfl ?_
  refine w_getf dX8_atom_58 fl_X8_132 (by first | assumption | exact gs_at | (rw [gs_ne (by omega)]; (first | assumption | exact gs_at | (rw [gs_ne (by omega)]; (first | assumption | exact gs_at | (rw [gs_ne (by omega)]; (first | assumption | exact gs_at | (rw [gs_ne (by omega)]; (first | assumption | exact gs_at))))))))) rfl ?_
  refine w_iconst (v := nI 1) dX8_atom_61 (by decide) ?_
  first | refine w_iaddN dX8_atom_62 ?_ | refine w_iadd dX8_atom_62 ?_
  refine w_putf dX8_atom_63 fl_X8_132 (by first | assumption | exact gs_at | (rw [gs_ne (by omega)]; (first | assumption | exact gs_at | (rw [gs_ne (by omega)]; (first | assumption | exact gs_at | (rw [gs_ne (by omega)]; (first | assumption | exact gs_at | (rw [gs_ne (by omega)]; (first | assumption | exact gs_at))))))))) (by simp) rfl rfl ?_
  rw [gs_gs]
  refine (show Wp E (11 + 3 * (j + 1)) 0 0 kX8_atom Q (gs G V (mO V th hi ac tp ba (nI n) (nI (b)) (-1) (nI (de + 1)) io hm_ we sh so)) (0, 0) 66 [.ref V, z1, .int (nI 0), z3] [] from ?_)
  refine w_iconst (v := nI 0) dX8_atom_66 (by decide) ?_
  refine w_istore_3 dX8_atom_67 rfl ?_
  refine w_iload_n dX8_atom_68 rfl ?_
  refine w_ifN_eq (tgt := 88) dX8_atom_69 (by decide) (fun c_69 => ?_) (fun c_69 => ?_)
  · try simp only [nI_b2, Decidable.not_not, ne_eq] at c_69
    refine w_aload_n dX8_atom_88 rfl ?_
    refine w_dup dX8_atom_89 rfl ?_
    refine w_getf dX8_atom_90 fl_X8_56 (by first | assumption | exact gs_at | (rw [gs_ne (by omega)]; (first | assumption | exact gs_at | (rw [gs_ne (by omega)]; (first | assumption | exact gs_at | (rw [gs_ne (by omega)]; (first | assumption | exact gs_at | (rw [gs_ne (by omega)]; (first | assumption | exact gs_at))))))))) rfl ?_
    refine w_iconst (v := nI 1) dX8_atom_93 (by decide) ?_
    first | refine w_iaddN dX8_atom_94 ?_ | refine w_iadd dX8_atom_94 ?_
    refine w_putf dX8_atom_95 fl_X8_56 (by first | assumption | exact gs_at | (rw [gs_ne (by omega)]; (first | assumption | exact gs_at | (rw [gs_ne (by omega)]; (first | assumption | exact gs_at | (rw [gs_ne (by omega)]; (first | assumption | exact gs_at | (rw [gs_ne (by omega)]; (first | assumption | exact gs_at))))))))) (by simp) rfl rfl ?_
    rw [gs_gs]
    refine (show Wp E (11 + 3 * (j + 1)) 0 0 kX8_atom Q (gs G V (mO V th hi ac tp ba (nI n) (nI (b + 1)) (-1) (nI (de + 1)) io hm_ we sh so)) (0, 0) 98 [.ref V, z1, .int (nI 0), .int (nI 0)] [] from ?_)
    refine w_aload_n dX8_atom_98 rfl ?_
    refine wV0i dX8_atom_99 lk_X8_191 rfl (by first | assumption | exact gs_at | (rw [gs_ne (by omega)]; (first | assumption | exact gs_at | (rw [gs_ne (by omega)]; (first | assumption | exact gs_at | (rw [gs_ne (by omega)]; (first | assumption | exact gs_at | (rw [gs_ne (by omega)]; (first | assumption | exact gs_at))))))))) rfl rfl (hA _ _ (b + 1) _ _ _ _ _ _ _ _ _ _ _ _ F gs_at hT.gs hn hy (by rw [← htk]; exact (tokE_le hb0).2) ((gs_ne (by omega)).trans hF)) (by first | exact Nat.le_of_ble_eq_true rfl | omega) (by first | exact Nat.le_of_ble_eq_true rfl | omega) (by first | exact Nat.le_of_ble_eq_true rfl | omega) (by first | exact Nat.le_of_ble_eq_true rfl | omega) (fun r_99 G_99 h_99 => ?_)
    have ex : skp y n (b + 1) = nxt y n b := by rw [← htk]; rfl
    have h_99 : LPo (gs G V (mO V th hi ac tp ba (nI n) (nI (b + 1)) (-1) (nI (de + 1)) io hm_ we sh so)) V n th hi ac tp ba (nI (de + 1)) io hm_ we sh so y (n + j) (pSo y n (pAtom y n j) (tkS y n (b, -1))).1 G_99 ∧ Bo r_99 ∧ ((pSo y n (pAtom y n j) (tkS y n (b, -1))).1.2 = -1 → ∀ T k, FOK T k F io hm_ → ∃ v, r_99 = nI v ∧ ∀ b9, b9 + (2 * j + 2) ≤ 60 → EvV T k b9 (pSo y n (pAtom y n j) (tkS y n (b, -1))).2 v) := by have h9 := h_99; rw [ex] at h9; exact h9
    obtain ⟨g0, gb, g4⟩ := h_99
    replace g0 := g0.base
    obtain ⟨p7, dp7, g1, g2, g3⟩ := g0
    subst g2
    refine w_istore_3 dX8_atom_102 rfl ?_
    refine w_aload_n dX8_atom_103 rfl ?_
    refine w_getf dX8_atom_104 fl_X8_25 (by first | assumption | exact gs_at | (rw [gs_ne (by omega)]; (first | assumption | exact gs_at | (rw [gs_ne (by omega)]; (first | assumption | exact gs_at | (rw [gs_ne (by omega)]; (first | assumption | exact gs_at | (rw [gs_ne (by omega)]; (first | assumption | exact gs_at))))))))) rfl ?_
    refine w_iconst (v := (-1)) dX8_atom_107 (by decide) ?_
    refine w_icmp_ne (tgt := 128) dX8_atom_108 (by decide) (fun c_108 => ?_) (fun c_108 => ?_)
    · try simp only [nI_b2, Decidable.not_not, ne_eq] at c_108
      have ep : pPar y n (pSo y n (pAtom y n j) (tkS y n (b, -1))) = (pSo y n (pAtom y n j) (tkS y n (b, -1))) := if_neg c_108
      rw [ep] at hQ
      first
        | exact ml_at128 gb (hQ _ _ ⟨p7 + 1, dp7 - nI 1, by omega, rfl, fun h => absurd h c_108⟩ gb (fun h => absurd h c_108))
        | exact ml_at128 gb (hQ _ _ ⟨skp y n p7 + 1, dp7 - nI 1, by omega, by show _ = gs G V (mO V th hi ac tp ba (nI n) (nI (skp y n p7 + 1)) (pSo y n (pAtom y n j) (tkS y n (b, -1))).1.2 (dp7 - nI 1) io hm_ we sh so); rw [c_108], fun h => ⟨by rw [d2]; have h9 := sign_tok h41; rw [← h9]; exact (tokE_le hsg.1).2, by rw [d2]; have h9 := sign_tok h41; rw [← h9]; rfl, by rw [← d3, pk_sub (by omega)]; rfl⟩⟩ gb (fun h T k hf => by obtain ⟨v, e1, u1⟩ := g4 c_108 T k hf; exact ⟨v, e1, fun b9 hb => u1 b9 (by omega)⟩))
        | exact ml_at128 gb (hQ _ _ ⟨(pSo y n (pAtom y n j) (tkS y n (b, -1))).1.1 + 1, dp7 - nI 1, by have := hsg.1; omega, by rw [er], fun h => absurd (er.symm.trans h) hnb⟩ gb (fun h => absurd (er.symm.trans h) hnb))
    · try simp only [nI_b2, Decidable.not_not, ne_eq] at c_108
      obtain ⟨d1, d2, d3⟩ := g3 c_108
      have d3 := d3.symm
      have hs7 := (skp_le (y := y) d1).2
      rw [c_108]
      refine w_aload_n dX8_atom_111 rfl ?_
      refine w_bipush (v := nI 41) dX8_atom_112 (by decide) ?_
      refine wV1i dX8_atom_114 lk_X8_141 rfl (by first | assumption | exact gs_at | (rw [gs_ne (by omega)]; (first | assumption | exact gs_at | (rw [gs_ne (by omega)]; (first | assumption | exact gs_at | (rw [gs_ne (by omega)]; (first | assumption | exact gs_at | (rw [gs_ne (by omega)]; (first | assumption | exact gs_at))))))))) rfl rfl (m_isSign (c := 41) gs_at hT.gs hn hy d1 (by decide)) (by first | exact Nat.le_of_ble_eq_true rfl | omega) (by first | exact Nat.le_of_ble_eq_true rfl | omega) (by first | exact Nat.le_of_ble_eq_true rfl | omega) (by first | exact Nat.le_of_ble_eq_true rfl | omega) (fun r_114 G_114 h_114 => ?_)
      obtain ⟨k2, k3⟩ := h_114
      rw [gs_gs] at k3
      subst k2
      subst k3
      refine w_ifN_ne (tgt := 128) dX8_atom_117 (by decide) (fun c_117 => ?_) (fun c_117 => ?_)
      · try simp only [nI_b2, Decidable.not_not, ne_eq] at c_117
        rw [d2] at c_117
        have h41 : atB y n (pSo y n (pAtom y n j) (tkS y n (b, -1))).1.1 [41] = true := (sign_eq hn (by decide)).mpr c_117
        have ep : pPar y n (pSo y n (pAtom y n j) (tkS y n (b, -1))) = (tkS y n (pSo y n (pAtom y n j) (tkS y n (b, -1))).1, (pSo y n (pAtom y n j) (tkS y n (b, -1))).2) := by rw [pPar, if_pos c_108, if_pos h41]
        rw [ep] at hQ
        first
          | exact ml_at128 gb (hQ _ _ ⟨p7 + 1, dp7 - nI 1, by omega, rfl, fun h => absurd h c_108⟩ gb (fun h => absurd h c_108))
          | exact ml_at128 gb (hQ _ _ ⟨skp y n p7 + 1, dp7 - nI 1, by omega, by show _ = gs G V (mO V th hi ac tp ba (nI n) (nI (skp y n p7 + 1)) (pSo y n (pAtom y n j) (tkS y n (b, -1))).1.2 (dp7 - nI 1) io hm_ we sh so); rw [c_108], fun h => ⟨by rw [d2]; have h9 := sign_tok h41; rw [← h9]; exact (tokE_le hsg.1).2, by rw [d2]; have h9 := sign_tok h41; rw [← h9]; rfl, by rw [← d3, pk_sub (by omega)]; rfl⟩⟩ gb (fun h T k hf => by obtain ⟨v, e1, u1⟩ := g4 c_108 T k hf; exact ⟨v, e1, fun b9 hb => u1 b9 (by omega)⟩))
          | exact ml_at128 gb (hQ _ _ ⟨(pSo y n (pAtom y n j) (tkS y n (b, -1))).1.1 + 1, dp7 - nI 1, by have := hsg.1; omega, by rw [er], fun h => absurd (er.symm.trans h) hnb⟩ gb (fun h => absurd (er.symm.trans h) hnb))
      · try simp only [nI_b2, Decidable.not_not, ne_eq] at c_117
        rw [d2] at c_117
        have h41 : ¬ atB y n (pSo y n (pAtom y n j) (tkS y n (b, -1))).1.1 [41] = true := fun h => c_117 ((sign_eq hn (by decide)).mp h)
        have ep : pPar y n (pSo y n (pAtom y n j) (tkS y n (b, -1))) = (sRf (pSo y n (pAtom y n j) (tkS y n (b, -1))).1, (pSo y n (pAtom y n j) (tkS y n (b, -1))).2) := by rw [pPar, if_pos c_108, if_neg h41]
        have er : (sRf (pSo y n (pAtom y n j) (tkS y n (b, -1))).1).2 = nI (pSo y n (pAtom y n j) (tkS y n (b, -1))).1.1 := if_pos c_108
        have hnb : ¬ nI (pSo y n (pAtom y n j) (tkS y n (b, -1))).1.1 = -1 := nI_nm1 (by omega)
        rw [ep] at hQ
        refine w_aload_n dX8_atom_120 rfl ?_
        refine w_aload_n dX8_atom_121 rfl ?_
        refine w_getf dX8_atom_122 fl_X8_56 (by first | assumption | exact gs_at | (rw [gs_ne (by omega)]; (first | assumption | exact gs_at | (rw [gs_ne (by omega)]; (first | assumption | exact gs_at | (rw [gs_ne (by omega)]; (first | assumption | exact gs_at | (rw [gs_ne (by omega)]; (first | assumption | exact gs_at))))))))) rfl ?_
        refine wV1n dX8_atom_125 lk_X8_82 rfl (by first | assumption | exact gs_at | (rw [gs_ne (by omega)]; (first | assumption | exact gs_at | (rw [gs_ne (by omega)]; (first | assumption | exact gs_at | (rw [gs_ne (by omega)]; (first | assumption | exact gs_at | (rw [gs_ne (by omega)]; (first | assumption | exact gs_at))))))))) rfl rfl (m_wrongF gs_at) (by first | exact Nat.le_of_ble_eq_true rfl | omega) (by first | exact Nat.le_of_ble_eq_true rfl | omega) (by first | exact Nat.le_of_ble_eq_true rfl | omega) (by first | exact Nat.le_of_ble_eq_true rfl | omega) ?_
        rw [gs_gs, d2]
        first
          | exact ml_at128 gb (hQ _ _ ⟨p7 + 1, dp7 - nI 1, by omega, rfl, fun h => absurd h c_108⟩ gb (fun h => absurd h c_108))
          | exact ml_at128 gb (hQ _ _ ⟨skp y n p7 + 1, dp7 - nI 1, by omega, by show _ = gs G V (mO V th hi ac tp ba (nI n) (nI (skp y n p7 + 1)) (pSo y n (pAtom y n j) (tkS y n (b, -1))).1.2 (dp7 - nI 1) io hm_ we sh so); rw [c_108], fun h => ⟨by rw [d2]; have h9 := sign_tok h41; rw [← h9]; exact (tokE_le hsg.1).2, by rw [d2]; have h9 := sign_tok h41; rw [← h9]; rfl, by rw [← d3, pk_sub (by omega)]; rfl⟩⟩ gb (fun h T k hf => by obtain ⟨v, e1, u1⟩ := g4 c_108 T k hf; exact ⟨v, e1, fun b9 hb => u1 b9 (by omega)⟩))
          | exact ml_at128 gb (hQ _ _ ⟨(pSo y n (pAtom y n j) (tkS y n (b, -1))).1.1 + 1, dp7 - nI 1, by have := hsg.1; omega, by rw [er], fun h => absurd (er.symm.trans h) hnb⟩ gb (fun h => absurd (er.symm.trans h) hnb))
  · try simp only [nI_b2, Decidable.not_not, ne_eq] at c_69
    exact absurd trivial c_69
theorem ml_atom {E : EV} {k de : Nat} (hd : de + k = 6) (hrec : ∀ j, k = j + 1 → AtC E (11 + 3 * j) kX8_atom (fun y n => pAtom y n j) j (2 * j) (nI (de + 1)) ∧ AtC E (13 + 3 * j) kX8_some (fun y n => pSo y n (pAtom y n j)) j (2 * j + 2) (nI (de + 1))) : AtC E (11 + 3 * k) kX8_atom (fun y n => pAtom y n k) k (2 * k) (nI (de)) := by
  intro V n p th hi ac tp ba io hm_ we sh so y G F hV hT hn hy hp hF
  have hb0 : skp y n p ≤ n := (skp_le (y := y) hp).2
  obtain ⟨b, hb⟩ : ∃ b, b = skp y n p := ⟨_, rfl⟩
  have hbb : skp y n b = b := by rw [hb]; exact skp_skp hn
  rw [← hb] at hb0 ⊢
  have hno4 : ∀ h : atB y n b [110, 111, 116] = true, ¬ atB y n b [40] = true := fun h h9 => absurd (at_len h h9) (by decide)
  refine Ct.intro rfl (by decide) [.ref V, .float 0, .float 0, .float 0] (by simp [Value.category]) (by first | exact Nat.le_of_ble_eq_true rfl | omega) rfl ?_
  refine w_aload_n dX8_atom_0 rfl ?_
  refine w_getf dX8_atom_1 fl_X8_25 (by first | assumption | exact gs_at | (rw [gs_ne (by omega)]; (first | assumption | exact gs_at | (rw [gs_ne (by omega)]; (first | assumption | exact gs_at | (rw [gs_ne (by omega)]; (first | assumption | exact gs_at | (rw [gs_ne (by omega)]; (first | assumption | exact gs_at))))))))) rfl ?_
  refine w_iconst (v := (-1)) dX8_atom_4 (by decide) ?_
  refine w_icmp_eq (tgt := 10) dX8_atom_5 (by decide) (fun c_5 => ?_) (fun c_5 => ?_)
  · try simp only [nI_b2, Decidable.not_not, ne_eq] at c_5
    refine w_aload_n dX8_atom_10 rfl ?_
    refine wV0i dX8_atom_11 lk_X8_79 rfl (by first | assumption | exact gs_at | (rw [gs_ne (by omega)]; (first | assumption | exact gs_at | (rw [gs_ne (by omega)]; (first | assumption | exact gs_at | (rw [gs_ne (by omega)]; (first | assumption | exact gs_at | (rw [gs_ne (by omega)]; (first | assumption | exact gs_at))))))))) rfl rfl (m_place hV hT hn hy hp) (by first | exact Nat.le_of_ble_eq_true rfl | omega) (by first | exact Nat.le_of_ble_eq_true rfl | omega) (by first | exact Nat.le_of_ble_eq_true rfl | omega) (by first | exact Nat.le_of_ble_eq_true rfl | omega) (fun r_11 G_11 h_11 => ?_)
    obtain ⟨e1, e2⟩ := h_11
    rw [← hb] at e1 e2
    subst e1; subst e2
    refine w_istore_1 dX8_atom_14 rfl ?_
    refine w_aload_n dX8_atom_15 rfl ?_
    refine w_ldcS (i := 46) rfl rfl dX8_atom_16 ?_
    refine wV1i dX8_atom_18 lk_X8_86 rfl (by first | assumption | exact gs_at | (rw [gs_ne (by omega)]; (first | assumption | exact gs_at | (rw [gs_ne (by omega)]; (first | assumption | exact gs_at | (rw [gs_ne (by omega)]; (first | assumption | exact gs_at | (rw [gs_ne (by omega)]; (first | assumption | exact gs_at))))))))) rfl rfl (m_has (ws := [110, 111, 116]) rfl rfl (by decide) (by decide) (by decide) (by decide) gs_at hT.gs hn hy hb0) (by first | exact Nat.le_of_ble_eq_true rfl | omega) (by first | exact Nat.le_of_ble_eq_true rfl | omega) (by first | exact Nat.le_of_ble_eq_true rfl | omega) (by first | exact Nat.le_of_ble_eq_true rfl | omega) (fun r_18 G_18 h_18 => ?_)
    obtain ⟨k2_18, k3_18⟩ := h_18
    rw [hbb, gs_gs] at k3_18
    rw [hbb] at k2_18
    subst k2_18
    refine w_istore_2 dX8_atom_21 rfl ?_
    refine w_iload_n dX8_atom_22 rfl ?_
    refine w_ifN_ne (tgt := 40) dX8_atom_23 (by decide) (fun c_23 => ?_) (fun c_23 => ?_)
    · try simp only [nI_b2, Decidable.not_not, ne_eq] at c_23
      rw [if_pos c_23] at k3_18
      subst k3_18
      rw [b2, if_pos c_23]
      refine w_aload_n dX8_atom_40 rfl ?_
      refine w_getf dX8_atom_41 fl_X8_132 (by first | assumption | exact gs_at | (rw [gs_ne (by omega)]; (first | assumption | exact gs_at | (rw [gs_ne (by omega)]; (first | assumption | exact gs_at | (rw [gs_ne (by omega)]; (first | assumption | exact gs_at | (rw [gs_ne (by omega)]; (first | assumption | exact gs_at))))))))) rfl ?_
      refine w_bipush (v := nI 6) dX8_atom_44 (by decide) ?_
      refine w_icmp_ne (tgt := 56) dX8_atom_46 (by decide) (fun c_46 => ?_) (fun c_46 => ?_)
      · try simp only [nI_b2, Decidable.not_not, ne_eq] at c_46
        rw [nI_eq (by omega) (by omega)] at c_46
        obtain ⟨j, hj⟩ : ∃ j, k = j + 1 := ⟨k - 1, by omega⟩
        obtain ⟨r1, r2⟩ := hrec j hj
        subst hj
        first
          | exact ml_atN r1 hT hn hy hF hb0 (by omega) (by omega) c_23 (fun r G1 h1 h2 h3 => ⟨r, rfl, h1, h2, h3⟩)
          | exact ml_atP r2 hT hn hy hF hb0 (by omega) (by omega) c_23 hO (fun r G1 h1 h2 h3 => ⟨r, rfl, h1, h2, h3⟩)
      · try simp only [nI_b2, Decidable.not_not, ne_eq] at c_46
        rw [nI_eq (by omega) (by omega)] at c_46
        have hk0 : k = 0 := by omega
        have er : (pAtom y n k (b, -1)).1.2 = nI b := by
          have h9 : pAtom y n 0 (b, -1) = (sRf (b, -1), []) := by (rw [pAtom]; first | exact if_pos (Or.inl c_23) | exact if_pos (Or.inr hO))
          rw [hk0, h9]
          exact (if_pos rfl : (if (-1 : Int32) = -1 then nI b else -1) = nI b)
        have hnb : ¬ nI b = -1 := nI_nm1 (by omega)
        refine w_aload_n dX8_atom_49 rfl ?_
        refine w_iload_n dX8_atom_50 rfl ?_
        refine wV1n dX8_atom_51 lk_X8_82 rfl (by first | assumption | exact gs_at | (rw [gs_ne (by omega)]; (first | assumption | exact gs_at | (rw [gs_ne (by omega)]; (first | assumption | exact gs_at | (rw [gs_ne (by omega)]; (first | assumption | exact gs_at | (rw [gs_ne (by omega)]; (first | assumption | exact gs_at))))))))) rfl rfl (m_wrongF gs_at) (by first | exact Nat.le_of_ble_eq_true rfl | omega) (by first | exact Nat.le_of_ble_eq_true rfl | omega) (by first | exact Nat.le_of_ble_eq_true rfl | omega) (by first | exact Nat.le_of_ble_eq_true rfl | omega) ?_
        rw [gs_gs]
        refine w_iconst (v := nI 0) dX8_atom_54 (by decide) ?_
        refine w_zret dX8_atom_55 rfl rfl (by first | exact Nat.le_of_ble_eq_true rfl | omega) (by first | exact Nat.le_of_ble_eq_true rfl | omega) ?_
        first
          | (have h32 := c_32; exact ⟨_, rfl, ⟨b, nI de, Nat.le_trans hb0 (Nat.le_add_right n k), by rw [er], fun h => absurd (er.symm.trans h) hnb⟩, by decide, fun h => absurd (er.symm.trans h) hnb⟩)
          | exact ⟨_, rfl, ⟨tokE y n b, nI de, Nat.le_trans (tokE_le hb0).2 (Nat.le_add_right n k), by rw [er], fun h => absurd (er.symm.trans h) hnb⟩, by decide, fun h => absurd (er.symm.trans h) hnb⟩
    · try simp only [nI_b2, Decidable.not_not, ne_eq] at c_23
      rw [if_neg c_23] at k3_18
      subst k3_18
      rw [b2, if_neg c_23]
      refine w_aload_n dX8_atom_26 rfl ?_
      refine w_bipush (v := nI 40) dX8_atom_27 (by decide) ?_
      refine wV1i dX8_atom_29 lk_X8_141 rfl (by first | assumption | exact gs_at | (rw [gs_ne (by omega)]; (first | assumption | exact gs_at | (rw [gs_ne (by omega)]; (first | assumption | exact gs_at | (rw [gs_ne (by omega)]; (first | assumption | exact gs_at | (rw [gs_ne (by omega)]; (first | assumption | exact gs_at))))))))) rfl rfl (m_isSign (c := 40) gs_at hT.gs hn hy hb0 (by decide)) (by first | exact Nat.le_of_ble_eq_true rfl | omega) (by first | exact Nat.le_of_ble_eq_true rfl | omega) (by first | exact Nat.le_of_ble_eq_true rfl | omega) (by first | exact Nat.le_of_ble_eq_true rfl | omega) (fun r_29 G_29 h_29 => ?_)
      obtain ⟨k2, k3⟩ := h_29
      rw [hbb, gs_gs] at k3
      rw [hbb] at k2
      subst k2
      subst k3
      refine w_ifN_ne (tgt := 40) dX8_atom_32 (by decide) (fun c_32 => ?_) (fun c_32 => ?_)
      · try simp only [nI_b2, Decidable.not_not, ne_eq] at c_32
        have hO : atB y n b [40] = true := (sign_eq hn (by decide)).mpr c_32
        refine w_aload_n dX8_atom_40 rfl ?_
        refine w_getf dX8_atom_41 fl_X8_132 (by first | assumption | exact gs_at | (rw [gs_ne (by omega)]; (first | assumption | exact gs_at | (rw [gs_ne (by omega)]; (first | assumption | exact gs_at | (rw [gs_ne (by omega)]; (first | assumption | exact gs_at | (rw [gs_ne (by omega)]; (first | assumption | exact gs_at))))))))) rfl ?_
        refine w_bipush (v := nI 6) dX8_atom_44 (by decide) ?_
        refine w_icmp_ne (tgt := 56) dX8_atom_46 (by decide) (fun c_46 => ?_) (fun c_46 => ?_)
        · try simp only [nI_b2, Decidable.not_not, ne_eq] at c_46
          rw [nI_eq (by omega) (by omega)] at c_46
          obtain ⟨j, hj⟩ : ∃ j, k = j + 1 := ⟨k - 1, by omega⟩
          obtain ⟨r1, r2⟩ := hrec j hj
          subst hj
          first
            | exact ml_atN r1 hT hn hy hF hb0 (by omega) (by omega) c_23 (fun r G1 h1 h2 h3 => ⟨r, rfl, h1, h2, h3⟩)
            | exact ml_atP r2 hT hn hy hF hb0 (by omega) (by omega) c_23 hO (fun r G1 h1 h2 h3 => ⟨r, rfl, h1, h2, h3⟩)
        · try simp only [nI_b2, Decidable.not_not, ne_eq] at c_46
          rw [nI_eq (by omega) (by omega)] at c_46
          have hk0 : k = 0 := by omega
          have er : (pAtom y n k (b, -1)).1.2 = nI b := by
            have h9 : pAtom y n 0 (b, -1) = (sRf (b, -1), []) := by (rw [pAtom]; first | exact if_pos (Or.inl c_23) | exact if_pos (Or.inr hO))
            rw [hk0, h9]
            exact (if_pos rfl : (if (-1 : Int32) = -1 then nI b else -1) = nI b)
          have hnb : ¬ nI b = -1 := nI_nm1 (by omega)
          refine w_aload_n dX8_atom_49 rfl ?_
          refine w_iload_n dX8_atom_50 rfl ?_
          refine wV1n dX8_atom_51 lk_X8_82 rfl (by first | assumption | exact gs_at | (rw [gs_ne (by omega)]; (first | assumption | exact gs_at | (rw [gs_ne (by omega)]; (first | assumption | exact gs_at | (rw [gs_ne (by omega)]; (first | assumption | exact gs_at | (rw [gs_ne (by omega)]; (first | assumption | exact gs_at))))))))) rfl rfl (m_wrongF gs_at) (by first | exact Nat.le_of_ble_eq_true rfl | omega) (by first | exact Nat.le_of_ble_eq_true rfl | omega) (by first | exact Nat.le_of_ble_eq_true rfl | omega) (by first | exact Nat.le_of_ble_eq_true rfl | omega) ?_
          rw [gs_gs]
          refine w_iconst (v := nI 0) dX8_atom_54 (by decide) ?_
          refine w_zret dX8_atom_55 rfl rfl (by first | exact Nat.le_of_ble_eq_true rfl | omega) (by first | exact Nat.le_of_ble_eq_true rfl | omega) ?_
          first
            | (have h32 := c_32; exact ⟨_, rfl, ⟨b, nI de, Nat.le_trans hb0 (Nat.le_add_right n k), by rw [er], fun h => absurd (er.symm.trans h) hnb⟩, by decide, fun h => absurd (er.symm.trans h) hnb⟩)
            | exact ⟨_, rfl, ⟨tokE y n b, nI de, Nat.le_trans (tokE_le hb0).2 (Nat.le_add_right n k), by rw [er], fun h => absurd (er.symm.trans h) hnb⟩, by decide, fun h => absurd (er.symm.trans h) hnb⟩
      · try simp only [nI_b2, Decidable.not_not, ne_eq] at c_32
        have hO : ¬ atB y n b [40] = true := fun h => c_32 ((sign_eq hn (by decide)).mp h)
        have epl : pAtom y n k (b, -1) = pPl y n (b, -1) := by cases k with | zero => (rw [pAtom]; exact if_neg (fun h => h.elim c_23 hO)) | succ j => (rw [pAtom]; exact (if_neg c_23).trans (if_neg hO))
        refine w_aload_n dX8_atom_35 rfl ?_
        refine wV0i dX8_atom_36 lk_X8_184 rfl (by first | assumption | exact gs_at | (rw [gs_ne (by omega)]; (first | assumption | exact gs_at | (rw [gs_ne (by omega)]; (first | assumption | exact gs_at | (rw [gs_ne (by omega)]; (first | assumption | exact gs_at | (rw [gs_ne (by omega)]; (first | assumption | exact gs_at))))))))) rfl rfl (m_plain (p := b) (F := F) gs_at hT.gs hn hy hb0 ((gs_ne (by omega)).trans hF)) (by first | exact Nat.le_of_ble_eq_true rfl | omega) (by first | exact Nat.le_of_ble_eq_true rfl | omega) (by first | exact Nat.le_of_ble_eq_true rfl | omega) (by first | exact Nat.le_of_ble_eq_true rfl | omega) (fun r_36 G_36 h_36 => ?_)
        rw [hbb] at h_36
        obtain ⟨g0, gb, g4⟩ := h_36
        replace g0 := g0.base
        obtain ⟨gbx, gby⟩ : ∃ q : Int32, q = r_36 := ⟨_, rfl⟩
        refine w_zret dX8_atom_39 rfl gb (by first | exact Nat.le_of_ble_eq_true rfl | omega) (by first | exact Nat.le_of_ble_eq_true rfl | omega) ?_
        refine ⟨r_36, rfl, ?_, gb, ?_⟩
        · show LPo G V n th hi ac tp ba (nI de) io hm_ we sh so y (n + k) (pAtom y n k (b, -1)).1 _
          rw [epl]
          exact g0.up (by omega)
        · show (pAtom y n k (b, -1)).1.2 = -1 → ∀ T k9, FOK T k9 F io hm_ → ∃ v, r_36 = nI v ∧ ∀ b9, b9 + 2 * k ≤ 60 → EvV T k9 b9 (pAtom y n k (b, -1)).2 v
          rw [epl]
          intro h T k9 hf
          obtain ⟨v, e1, u1⟩ := g4 h T k9 hf
          exact ⟨v, e1, fun b9 hb => u1 b9 (by omega)⟩
  · try simp only [nI_b2, Decidable.not_not, ne_eq] at c_5
    exact absurd trivial c_5
theorem m_atom {E : EV} : ∀ (k de : Nat), de + k = 6 → AtC E (11 + 3 * k) kX8_atom (fun y n => pAtom y n k) k (2 * k) (nI (de))
  | 0, de, hd => ml_atom hd (fun j h => absurd h (by omega))
  | k + 1, de, hd => ml_atom hd (fun j h => by
    have hj : k = j := by omega
    subst hj
    have h1 := m_atom (E := E) k (de + 1) (by omega)
    have h2 := m_every h1 (fun y n hn => pAtom_g hn k) (by omega) (by omega)
    have h3 := m_some h2 (fun y n hn => pAtom_g hn k) (by omega) (by omega)
    rw [show 11 + 3 * k + 1 + 1 = 13 + 3 * k by omega] at h3
    exact ⟨h1, h3⟩)
theorem m_cond {E : EV} : AtC E 31 kX8_some (fun y n => pSo y n (pAtom y n 6)) 6 14 (nI 0) := by
  have h1 := m_atom (E := E) 6 0 rfl
  have h2 := m_every h1 (fun y n hn => pAtom_g hn 6) (by omega) (by omega)
  exact m_some h2 (fun y n hn => pAtom_g hn 6) (by omega) (by omega)
