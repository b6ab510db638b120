/-! the model: what is plain in a law -/
theorem LPo.bad {G G1 : AH} {V n N : Nat} {th hi ac tp ba dp io hm_ we sh so : Int32} {y : Nat → Nat} {R R2 : RS} (h : LPo G V n th hi ac tp ba dp io hm_ we sh so y N R G1) (hb : ¬ R.2 = -1) (e : R2.2 = R.2) : LPo G V n th hi ac tp ba dp io hm_ we sh so y N R2 G1 := by
  obtain ⟨p2, dp2, h1, h2, h3⟩ := h
  exact ⟨p2, dp2, h1, by rw [e]; exact h2, fun h9 => absurd (e.symm.trans h9) hb⟩
theorem LPo.up {G G1 : AH} {V n N N2 : Nat} {th hi ac tp ba dp io hm_ we sh so : Int32} {y : Nat → Nat} {R : RS} (h : LPo G V n th hi ac tp ba dp io hm_ we sh so y N R G1) (hN : N ≤ N2) : LPo G V n th hi ac tp ba dp io hm_ we sh so y N2 R G1 := by
  obtain ⟨p2, dp2, h1, h2, h3⟩ := h
  exact ⟨p2, dp2, Nat.le_trans h1 hN, h2, h3⟩
theorem LPo.base {G G1 : AH} {V n N : Nat} {th hi ac tp ba dp io hm_ we sh so : Int32} {y : Nat → Nat} {R : RS} {x : HC} (h : LPo (gs G V x) V n th hi ac tp ba dp io hm_ we sh so y N R G1) : LPo G V n th hi ac tp ba dp io hm_ we sh so y N R G1 := by
  obtain ⟨p2, dp2, h1, h2, h3⟩ := h
  exact ⟨p2, dp2, h1, by rw [h2, gs_gs], h3⟩
theorem pSum_bad {y : Nat → Nat} {n : Nat} {s : RS} (h : ¬ s.2 = -1) : pSum y n s = (s, []) := if_neg h
theorem nd_bad {y : Nat → Nat} {n : Nat} {s : RS} {ws : List Nat} (h : ¬ s.2 = -1) : (sNd y n ws s).2 = s.2 := by
  unfold sNd
  split
  · rfl
  · exact if_neg h
theorem pAtE_bad {y : Nat → Nat} {n : Nat} {s : RS} (h : ¬ s.2 = -1) : (pAtE y n s).1.2 = s.2 := by
  unfold pAtE
  split
  · rw [pSum_bad (s := tkS y n s) h]; rfl
  · have h1 := nd_bad (y := y) (n := n) (ws := [62]) h
    rw [pSum_bad (s := sNd y n [62] s) (by rw [h1]; exact h)]; exact h1
def plV (le : Nat) (r1 r2 : Int32) : Nat := if le = 1 then (if r2 ≤ r1 then 0 else 1) else (if r1 ≤ r2 then 0 else 1)
theorem plV_le (le : Nat) (r1 r2 : Int32) : plV le r1 r2 ≤ 1 := by
  unfold plV
  repeat' split
  all_goals omega
theorem plV_less {T : ST} {k : Nat} {c1 c2 : List Int32} {a z : Nat} (h1 : SmV T k c1 a) (h2 : SmV T k c2 z) (ha : a < 2 ^ 30) (hz : z < 2 ^ 30) {b : Nat} (hb : b ≤ 60) : EvV T k b (c1 ++ (-10 :: (c2 ++ [-11]))) (plV 1 (nI a) (nI z)) := by
  have e : plV 1 (nI a) (nI z) = b2 (a < z) := by
    unfold plV b2
    rw [if_pos rfl]
    by_cases h : z ≤ a
    · rw [if_pos ((nI_leI (by omega) (by omega)).mpr h), if_neg (by omega)]
    · rw [if_neg (fun h9 => h ((nI_leI (by omega) (by omega)).mp h9)), if_pos (by omega)]
  rw [e]; exact EvV.less hb h1 h2 ha hz
theorem plV_more {T : ST} {k : Nat} {c1 c2 : List Int32} {a z : Nat} (h1 : SmV T k c1 a) (h2 : SmV T k c2 z) (ha : a < 2 ^ 30) (hz : z < 2 ^ 30) {b : Nat} (hb : b ≤ 60) : EvV T k b (c1 ++ (-10 :: (c2 ++ [-12]))) (plV 0 (nI a) (nI z)) := by
  have e : plV 0 (nI a) (nI z) = b2 (z < a) := by
    unfold plV b2
    rw [if_neg (by decide)]
    by_cases h : a ≤ z
    · rw [if_pos ((nI_leI (by omega) (by omega)).mpr h), if_neg (by omega)]
    · rw [if_neg (fun h9 => h ((nI_leI (by omega) (by omega)).mp h9)), if_pos (by omega)]
  rw [e]; exact EvV.more hb h1 h2 ha hz
theorem ml_pl88 {E : EV} {Q : OC → AH → Prop} {V le : Nat} {G : AH} {r1 r2 : Int32} (hle : le ≤ 1) (hQ : Q (.inl (some (.int (nI (plV le r1 r2))))) G) : Wp E 10 0 0 kX8_plain Q G (0, 0) 88 [.ref V, .int r1, .int (nI le), .int r2] [] := by
  refine w_iload_n dX8_plain_88 rfl ?_
  refine w_ifN_eq (tgt := 105) dX8_plain_89 (by decide) (fun c_89 => ?_) (fun c_89 => ?_)
  · skip
    have hl : ¬ le = 1 := fun h => by rw [h] at c_89; exact absurd c_89 (by decide)
    refine w_iload_n dX8_plain_105 rfl ?_
    refine w_iload_n dX8_plain_106 rfl ?_
    refine w_icmp_le (tgt := 114) dX8_plain_107 (by decide) (fun c_107 => ?_) (fun c_107 => ?_)
    · skip
      refine w_iconst (v := nI 0) dX8_plain_114 (by decide) ?_
      refine w_zret dX8_plain_115 rfl rfl (Nat.le_of_ble_eq_true rfl) (Nat.le_of_ble_eq_true rfl) ?_
      unfold plV at hQ
      first
        | (rw [if_pos hl, if_pos c_94] at hQ; exact hQ)
        | (rw [if_pos hl, if_neg c_94] at hQ; exact hQ)
        | (rw [if_neg hl, if_pos c_107] at hQ; exact hQ)
        | (rw [if_neg hl, if_neg c_107] at hQ; exact hQ)
    · skip
      refine w_iconst (v := nI 1) dX8_plain_110 (by decide) ?_
      refine w_goto (tgt := 115) dX8_plain_111 (by decide) ?_
      refine w_zret dX8_plain_115 rfl rfl (Nat.le_of_ble_eq_true rfl) (Nat.le_of_ble_eq_true rfl) ?_
      unfold plV at hQ
      first
        | (rw [if_pos hl, if_pos c_94] at hQ; exact hQ)
        | (rw [if_pos hl, if_neg c_94] at hQ; exact hQ)
        | (rw [if_neg hl, if_pos c_107] at hQ; exact hQ)
        | (rw [if_neg hl, if_neg c_107] at hQ; exact hQ)
  · skip
    have hl : le = 1 := by rcases Nat.le_one_iff_eq_zero_or_eq_one.mp hle with h | h; rw [h] at c_89; exact absurd rfl c_89; exact h
    refine w_iload_n dX8_plain_92 rfl ?_
    refine w_iload_n dX8_plain_93 rfl ?_
    refine w_icmp_ge (tgt := 101) dX8_plain_94 (by decide) (fun c_94 => ?_) (fun c_94 => ?_)
    · skip
      refine w_iconst (v := nI 0) dX8_plain_101 (by decide) ?_
      refine w_goto (tgt := 115) dX8_plain_102 (by decide) ?_
      refine w_zret dX8_plain_115 rfl rfl (Nat.le_of_ble_eq_true rfl) (Nat.le_of_ble_eq_true rfl) ?_
      unfold plV at hQ
      first
        | (rw [if_pos hl, if_pos c_94] at hQ; exact hQ)
        | (rw [if_pos hl, if_neg c_94] at hQ; exact hQ)
        | (rw [if_neg hl, if_pos c_107] at hQ; exact hQ)
        | (rw [if_neg hl, if_neg c_107] at hQ; exact hQ)
    · skip
      refine w_iconst (v := nI 1) dX8_plain_97 (by decide) ?_
      refine w_goto (tgt := 115) dX8_plain_98 (by decide) ?_
      refine w_zret dX8_plain_115 rfl rfl (Nat.le_of_ble_eq_true rfl) (Nat.le_of_ble_eq_true rfl) ?_
      unfold plV at hQ
      first
        | (rw [if_pos hl, if_pos c_94] at hQ; exact hQ)
        | (rw [if_pos hl, if_neg c_94] at hQ; exact hQ)
        | (rw [if_neg hl, if_pos c_107] at hQ; exact hQ)
        | (rw [if_neg hl, if_neg c_107] at hQ; exact hQ)
theorem ml_pl73 {E : EV} {Q : OC → AH → Prop} {V n : Nat} {th hi ac tp ba dp io hm_ we sh so : Int32} {y : Nat → Nat} {G : AH} {F : Nat → Int32} {q le : Nat} {r1 : Int32} {z : Value} (hT : TxP G V ba y n) (hn : n ≤ 400) (hy : ∀ i, y i < 256) (hF : G.1 (V + 6) = some (aI 7 F)) (hle : le ≤ 1) (hq : q + 1 ≤ n) (hQ : ∀ (r2 : Int32) (G1 : AH), LPo G V n th hi ac tp ba dp io hm_ we sh so y n (pSum y n (skp y n (q + 1), -1)).1 G1 → ((pSum y n (skp y n (q + 1), -1)).1.2 = -1 → ∀ T k, FOK T k F io hm_ → ∃ a, a ≤ 999 * (pSum y n (skp y n (q + 1), -1)).2.length ∧ r2 = nI a ∧ SmV T k (pSum y n (skp y n (q + 1), -1)).2 a) → Q (.inl (some (.int (nI (plV le r1 r2))))) G1) : Wp E 10 0 0 kX8_plain Q (gs G V (mO V th hi ac tp ba (nI n) (nI (q)) (-1) (dp) io hm_ we sh so)) (0, 0) 73 [.ref V, .int r1, .int (nI le), z] [] := by
  refine w_aload_n dX8_plain_73 rfl ?_
  refine w_dup dX8_plain_74 rfl ?_
  refine w_getf dX8_plain_75 fl_X8_56 (by first | assumption | exact gs_at | (rw [gs_ne (by omega)]; (first | assumption | exact gs_at | (rw [gs_ne (by omega)]; (first | assumption | exact gs_at | (rw [gs_ne (by omega)]; (first | assumption | exact gs_at | (rw [gs_ne (by omega)]; (first | assumption | exact gs_at))))))))) rfl ?_
  refine w_iconst (v := nI 1) dX8_plain_78 (by decide) ?_
  first | refine w_iaddN dX8_plain_79 ?_ | refine w_iadd dX8_plain_79 ?_
  refine w_putf dX8_plain_80 fl_X8_56 (by first | assumption | exact gs_at | (rw [gs_ne (by omega)]; (first | assumption | exact gs_at | (rw [gs_ne (by omega)]; (first | assumption | exact gs_at | (rw [gs_ne (by omega)]; (first | assumption | exact gs_at | (rw [gs_ne (by omega)]; (first | assumption | exact gs_at))))))))) (by simp) rfl rfl ?_
  rw [gs_gs]
  refine (show Wp E 10 0 0 kX8_plain _ (gs G V (mO V th hi ac tp ba (nI n) (nI (q + 1)) (-1) (dp) io hm_ we sh so)) (0, 0) 83 [.ref V, .int r1, .int (nI le), z] [] from ?_)
  refine w_aload_n dX8_plain_83 rfl ?_
  refine wV0i dX8_plain_84 lk_X8_179 rfl (by first | assumption | exact gs_at | (rw [gs_ne (by omega)]; (first | assumption | exact gs_at | (rw [gs_ne (by omega)]; (first | assumption | exact gs_at | (rw [gs_ne (by omega)]; (first | assumption | exact gs_at | (rw [gs_ne (by omega)]; (first | assumption | exact gs_at))))))))) rfl rfl (m_sum (p := q + 1) (F := F) gs_at hT.gs hn hy hq ((gs_ne (by omega)).trans hF)) (Nat.le_of_ble_eq_true rfl) (Nat.le_of_ble_eq_true rfl) (Nat.le_of_ble_eq_true rfl) (Nat.le_of_ble_eq_true rfl) (fun r_84 G_84 h_84 => ?_)
  refine w_istore_3 dX8_plain_87 rfl ?_
  exact ml_pl88 hle (hQ _ _ h_84.1.base h_84.2)
theorem ml_pl43 {E : EV} {Q : OC → AH → Prop} {V n : Nat} {th hi ac tp ba dp io hm_ we sh so : Int32} {y : Nat → Nat} {G : AH} {F : Nat → Int32} {p7 b : Nat} {r1 : Int32} {z z2 : Value} (hT : TxP G V ba y n) (hn : n ≤ 400) (hy : ∀ i, y i < 256) (hF : G.1 (V + 6) = some (aI 7 F)) (hb0 : b ≤ n) (w1 : ¬ atB y n b [111, 119, 110] = true) (w2 : ¬ atB y n b [104, 111, 109, 101] = true) (c_38 : (pSum y n (b, -1)).1.2 = -1) (q1 : p7 ≤ n) (q2 : skp y n p7 = (pSum y n (b, -1)).1.1) (g4 : ((pSum y n (b, -1)).1.2 = -1 → ∀ T k, FOK T k F io hm_ → ∃ a, a ≤ 999 * (pSum y n (b, -1)).2.length ∧ r1 = nI a ∧ SmV T k (pSum y n (b, -1)).2 a)) (hQ : ∀ (r : Int32) (G1 : AH), LPo G V n th hi ac tp ba dp io hm_ we sh so y n (pPl y n (b, -1)).1 G1 → Bo r → ((pPl y n (b, -1)).1.2 = -1 → ∀ T k, FOK T k F io hm_ → ∃ v, r = nI v ∧ ∀ b9, b9 ≤ 60 → EvV T k b9 (pPl y n (b, -1)).2 v) → Q (.inl (some (.int r))) G1) : Wp E 10 0 0 kX8_plain Q (gs G V (mO V th hi ac tp ba (nI n) (nI (p7)) (-1) (dp) io hm_ we sh so)) (0, 0) 43 [.ref V, .int r1, z, z2] [] := by
  obtain ⟨hg1, hg2⟩ := pSum_g (y := y) hn (s := (b, -1)) hb0
  obtain ⟨-, hs2, hs3⟩ := hg2 c_38
  have hq0 := (skp_le (y := y) q1).2
  have hat1 := sign_eq (y := y) (n := n) (p := (pSum y n (b, -1)).1.1) (c := 60) hn (by decide)
  have hat2 := sign_eq (y := y) (n := n) (p := (pSum y n (b, -1)).1.1) (c := 62) hn (by decide)
  have etk : tkS y n (pSum y n (b, -1)).1 = (nxt y n (pSum y n (b, -1)).1.1, -1) := Prod.ext rfl c_38
  have hgo : ∀ (le : Nat) (cc : Int32), le ≤ 1 → tokE y n (pSum y n (b, -1)).1.1 = (pSum y n (b, -1)).1.1 + 1 → pPl y n (b, -1) = ((pSum y n (tkS y n (pSum y n (b, -1)).1)).1, (pSum y n (b, -1)).2 ++ (-10 :: ((pSum y n (tkS y n (pSum y n (b, -1)).1)).2 ++ [cc]))) → (∀ (T : ST) (k a d : Nat) (c2 : List Int32) (b9 : Nat), a < 2 ^ 30 → d < 2 ^ 30 → b9 ≤ 60 → SmV T k (pSum y n (b, -1)).2 a → SmV T k c2 d → EvV T k b9 ((pSum y n (b, -1)).2 ++ (-10 :: (c2 ++ [cc]))) (plV le (nI a) (nI d))) → ∀ z3 : Value, Wp E 10 0 0 kX8_plain Q (gs G V (mO V th hi ac tp ba (nI n) (nI (skp y n p7)) (-1) (dp) io hm_ we sh so)) (0, 0) 73 [.ref V, .int r1, .int (nI le), z3] [] := by
    intro le cc hle htk ePl hval z3
    have ex : skp y n (skp y n p7 + 1) = nxt y n (pSum y n (b, -1)).1.1 := by rw [q2, ← htk]; rfl
    refine ml_pl73 hT hn hy hF hle (by rw [q2, ← htk]; exact (tokE_le hg1).2) (fun r2 G1 h1 h2 => ?_)
    rw [ex, ← etk] at h1 h2
    refine hQ _ _ (by rw [ePl]; exact h1) (by rw [show plV le r1 r2 = b2 (plV le r1 r2 = 1) from by have := plV_le le r1 r2; unfold b2; split <;> omega]; exact Bo.b2) (fun h T k hf => ?_)
    rw [ePl] at h ⊢
    obtain ⟨a, a1, a2, a3⟩ := g4 c_38 T k hf
    obtain ⟨d, d1, d2, d3⟩ := h2 h T k hf
    have hg5 := pSum_g (y := y) hn (s := tkS y n (pSum y n (b, -1)).1) (nxt_le hg1)
    obtain ⟨-, hs5, hs6⟩ := hg5.2 h
    have hg6 := hg5.1
    exact ⟨_, rfl, fun b9 hb9 => by rw [a2, d2]; exact hval T k a d _ b9 (by omega) (by omega) hb9 a3 d3⟩
  refine w_aload_n dX8_plain_43 rfl ?_
  refine w_bipush (v := nI 60) dX8_plain_44 (by decide) ?_
  refine wV1i dX8_plain_46 lk_X8_141 rfl (by first | assumption | exact gs_at | (rw [gs_ne (by omega)]; (first | assumption | exact gs_at | (rw [gs_ne (by omega)]; (first | assumption | exact gs_at | (rw [gs_ne (by omega)]; (first | assumption | exact gs_at | (rw [gs_ne (by omega)]; (first | assumption | exact gs_at))))))))) rfl rfl (m_isSign (c := 60) gs_at hT.gs hn hy q1 (by decide)) (Nat.le_of_ble_eq_true rfl) (Nat.le_of_ble_eq_true rfl) (Nat.le_of_ble_eq_true rfl) (Nat.le_of_ble_eq_true rfl) (fun r_46 G_46 h_46 => ?_)
  obtain ⟨k2, k3⟩ := h_46
  rw [gs_gs] at k3
  subst k2
  subst k3
  refine w_istore_2 dX8_plain_49 rfl ?_
  refine w_iload_n dX8_plain_50 rfl ?_
  refine w_ifN_ne (tgt := 73) dX8_plain_51 (by decide) (fun c_51 => ?_) (fun c_51 => ?_)
  · try simp only [nI_b2, Decidable.not_not, ne_eq] at c_51
    rw [q2] at c_51
    have hless : atB y n (pSum y n (b, -1)).1.1 [60] = true := hat1.mpr c_51
    rw [b2, if_pos (by rw [q2]; exact c_51)]
    first
      | exact hgo 1 (-11) (by decide) (sign_tok hless) (by rw [pPl, if_neg w1, if_neg w2, pAtE, if_pos hless]) (fun T k a d c2 b9 h1 h2 h3 h4 h5 => plV_less h4 h5 h1 h2 h3) _
      | exact hgo 0 (-12) (by decide) (sign_tok hmore) (by rw [pPl, if_neg w1, if_neg w2, pAtE, if_neg hless, end_]) (fun T k a d c2 b9 h1 h2 h3 h4 h5 => plV_more h4 h5 h1 h2 h3) _
  · try simp only [nI_b2, Decidable.not_not, ne_eq] at c_51
    rw [q2] at c_51
    have hless : ¬ atB y n (pSum y n (b, -1)).1.1 [60] = true := fun h => c_51 (hat1.mp h)
    rw [b2, if_neg (by rw [q2]; exact c_51)]
    refine w_aload_n dX8_plain_54 rfl ?_
    refine w_bipush (v := nI 62) dX8_plain_55 (by decide) ?_
    refine wV1i dX8_plain_57 lk_X8_141 rfl (by first | assumption | exact gs_at | (rw [gs_ne (by omega)]; (first | assumption | exact gs_at | (rw [gs_ne (by omega)]; (first | assumption | exact gs_at | (rw [gs_ne (by omega)]; (first | assumption | exact gs_at | (rw [gs_ne (by omega)]; (first | assumption | exact gs_at))))))))) rfl rfl (m_isSign (c := 62) gs_at hT.gs hn hy hq0 (by decide)) (Nat.le_of_ble_eq_true rfl) (Nat.le_of_ble_eq_true rfl) (Nat.le_of_ble_eq_true rfl) (Nat.le_of_ble_eq_true rfl) (fun r_57 G_57 h_57 => ?_)
    obtain ⟨k2, k3⟩ := h_57
    rw [gs_gs] at k3
    rw [skp_skp hn] at k2 k3
    subst k2
    subst k3
    refine w_ifN_ne (tgt := 73) dX8_plain_60 (by decide) (fun c_60 => ?_) (fun c_60 => ?_)
    · try simp only [nI_b2, Decidable.not_not, ne_eq] at c_60
      rw [q2] at c_60
      have hmore : atB y n (pSum y n (b, -1)).1.1 [62] = true := hat2.mpr c_60
      have end_ : sNd y n [62] (pSum y n (b, -1)).1 = tkS y n (pSum y n (b, -1)).1 := if_pos hmore
      first
        | exact hgo 1 (-11) (by decide) (sign_tok hless) (by rw [pPl, if_neg w1, if_neg w2, pAtE, if_pos hless]) (fun T k a d c2 b9 h1 h2 h3 h4 h5 => plV_less h4 h5 h1 h2 h3) _
        | exact hgo 0 (-12) (by decide) (sign_tok hmore) (by rw [pPl, if_neg w1, if_neg w2, pAtE, if_neg hless, end_]) (fun T k a d c2 b9 h1 h2 h3 h4 h5 => plV_more h4 h5 h1 h2 h3) _
    · try simp only [nI_b2, Decidable.not_not, ne_eq] at c_60
      rw [q2] at c_60
      have hmore : ¬ atB y n (pSum y n (b, -1)).1.1 [62] = true := fun h => c_60 (hat2.mp h)
      have end_ : (sNd y n [62] (pSum y n (b, -1)).1).2 = nI (pSum y n (b, -1)).1.1 := by rw [sNd, if_neg hmore]; exact if_pos c_38
      have hnb : ¬ nI (pSum y n (b, -1)).1.1 = -1 := nI_nm1 (by omega)
      have ebad : (pPl y n (b, -1)).1.2 = nI (pSum y n (b, -1)).1.1 := by rw [pPl, if_neg w1, if_neg w2]; show (pAtE y n (pSum y n (b, -1)).1).1.2 = _; rw [pAtE, if_neg hless, pSum_bad (by rw [end_]; exact hnb)]; exact end_
      refine w_aload_n dX8_plain_63 rfl ?_
      refine w_aload_n dX8_plain_64 rfl ?_
      refine w_getf dX8_plain_65 fl_X8_56 (by first | assumption | exact gs_at | (rw [gs_ne (by omega)]; (first | assumption | exact gs_at | (rw [gs_ne (by omega)]; (first | assumption | exact gs_at | (rw [gs_ne (by omega)]; (first | assumption | exact gs_at | (rw [gs_ne (by omega)]; (first | assumption | exact gs_at))))))))) rfl ?_
      refine wV1n dX8_plain_68 lk_X8_82 rfl (by first | assumption | exact gs_at | (rw [gs_ne (by omega)]; (first | assumption | exact gs_at | (rw [gs_ne (by omega)]; (first | assumption | exact gs_at | (rw [gs_ne (by omega)]; (first | assumption | exact gs_at | (rw [gs_ne (by omega)]; (first | assumption | exact gs_at))))))))) rfl rfl (m_wrongF gs_at) (Nat.le_of_ble_eq_true rfl) (Nat.le_of_ble_eq_true rfl) (Nat.le_of_ble_eq_true rfl) (Nat.le_of_ble_eq_true rfl) ?_
      rw [gs_gs]
      refine w_iconst (v := nI 0) dX8_plain_71 (by decide) ?_
      refine w_zret dX8_plain_72 rfl rfl (Nat.le_of_ble_eq_true rfl) (Nat.le_of_ble_eq_true rfl) ?_
      rw [q2]
      exact hQ _ _ (LPo.bad (R := ((pSum y n (b, -1)).1.1, nI (pSum y n (b, -1)).1.1)) ⟨(pSum y n (b, -1)).1.1, dp, hg1, rfl, fun h => absurd h hnb⟩ hnb ebad) (by decide) (fun h => absurd (ebad.symm.trans h) hnb)
theorem m_plain {E : EV} {V n p : Nat} {th hi ac tp ba dp io hm_ we sh so : Int32} {y : Nat → Nat} {G : AH} {F : Nat → Int32} (hV : G.1 V = some (mO V th hi ac tp ba (nI n) (nI (p)) (-1) dp io hm_ we sh so)) (hT : TxP G V ba y n) (hn : n ≤ 400) (hy : ∀ i, y i < 256) (hp : p ≤ n) (hF : G.1 (V + 6) = some (aI 7 F)) : Ci E 10 kX8_plain [.ref V] G (fun r G1 => LPo G V n th hi ac tp ba dp io hm_ we sh so y n (pPl y n (skp y n p, -1)).1 G1 ∧ Bo r ∧ ((pPl y n (skp y n p, -1)).1.2 = -1 → ∀ T k, FOK T k F io hm_ → ∃ v, r = nI v ∧ ∀ b9, b9 ≤ 60 → EvV T k b9 (pPl y n (skp y n p, -1)).2 v)) := by
  have hb0 : skp y n p ≤ n := (skp_le (y := y) hp).2
  obtain ⟨b, hb⟩ : ∃ b, b = skp y n p := ⟨_, rfl⟩
  have hbb : skp y n b = b := by rw [hb]; exact skp_skp hn
  rw [← hb] at hb0 ⊢
  have htb := (tokE_le (y := y) hb0).2
  refine Ct.intro rfl (by decide) [.ref V, .float 0, .float 0, .float 0] (by simp [Value.category]) (Nat.le_of_ble_eq_true rfl) rfl ?_
  refine w_aload_n dX8_plain_0 rfl ?_
  refine w_ldcS (i := 47) rfl rfl dX8_plain_1 ?_
  refine wV1i dX8_plain_3 lk_X8_86 rfl (by first | assumption | exact gs_at | (rw [gs_ne (by omega)]; (first | assumption | exact gs_at | (rw [gs_ne (by omega)]; (first | assumption | exact gs_at | (rw [gs_ne (by omega)]; (first | assumption | exact gs_at | (rw [gs_ne (by omega)]; (first | assumption | exact gs_at))))))))) rfl rfl (m_has (ws := [111, 119, 110]) rfl rfl (by decide) (by decide) (by decide) (by decide) hV hT hn hy hp) (Nat.le_of_ble_eq_true rfl) (Nat.le_of_ble_eq_true rfl) (Nat.le_of_ble_eq_true rfl) (Nat.le_of_ble_eq_true rfl) (fun r_3 G_3 h_3 => ?_)
  obtain ⟨k2_3, k3_3⟩ := h_3
  rw [← hb] at k2_3 k3_3
  subst k2_3
  refine w_ifN_eq (tgt := 14) dX8_plain_6 (by decide) (fun c_6 => ?_) (fun c_6 => ?_)
  · try simp only [nI_b2, Decidable.not_not, ne_eq] at c_6
    rw [if_neg c_6] at k3_3
    subst k3_3
    refine w_aload_n dX8_plain_14 rfl ?_
    refine w_ldcS (i := 48) rfl rfl dX8_plain_15 ?_
    refine wV1i dX8_plain_17 lk_X8_86 rfl (by first | assumption | exact gs_at | (rw [gs_ne (by omega)]; (first | assumption | exact gs_at | (rw [gs_ne (by omega)]; (first | assumption | exact gs_at | (rw [gs_ne (by omega)]; (first | assumption | exact gs_at | (rw [gs_ne (by omega)]; (first | assumption | exact gs_at))))))))) rfl rfl (m_has (ws := [104, 111, 109, 101]) rfl rfl (by decide) (by decide) (by decide) (by decide) gs_at hT.gs hn hy hb0) (Nat.le_of_ble_eq_true rfl) (Nat.le_of_ble_eq_true rfl) (Nat.le_of_ble_eq_true rfl) (Nat.le_of_ble_eq_true rfl) (fun r_17 G_17 h_17 => ?_)
    obtain ⟨k2_17, k3_17⟩ := h_17
    rw [hbb, gs_gs] at k3_17
    rw [hbb] at k2_17
    subst k2_17
    refine w_ifN_eq (tgt := 28) dX8_plain_20 (by decide) (fun c_20 => ?_) (fun c_20 => ?_)
    · try simp only [nI_b2, Decidable.not_not, ne_eq] at c_20
      rw [if_neg c_20] at k3_17
      subst k3_17
      refine w_aload_n dX8_plain_28 rfl ?_
      refine wV0i dX8_plain_29 lk_X8_179 rfl (by first | assumption | exact gs_at | (rw [gs_ne (by omega)]; (first | assumption | exact gs_at | (rw [gs_ne (by omega)]; (first | assumption | exact gs_at | (rw [gs_ne (by omega)]; (first | assumption | exact gs_at | (rw [gs_ne (by omega)]; (first | assumption | exact gs_at))))))))) rfl rfl (m_sum (p := b) (F := F) gs_at hT.gs hn hy hb0 ((gs_ne (by omega)).trans hF)) (Nat.le_of_ble_eq_true rfl) (Nat.le_of_ble_eq_true rfl) (Nat.le_of_ble_eq_true rfl) (Nat.le_of_ble_eq_true rfl) (fun r_29 G_29 h_29 => ?_)
      rw [hbb] at h_29
      obtain ⟨⟨p7, dp7, g1, g2, g3⟩, g4⟩ := h_29
      rw [gs_gs] at g2
      subst g2
      refine w_istore_1 dX8_plain_32 rfl ?_
      refine w_aload_n dX8_plain_33 rfl ?_
      refine w_getf dX8_plain_34 fl_X8_25 (by first | assumption | exact gs_at | (rw [gs_ne (by omega)]; (first | assumption | exact gs_at | (rw [gs_ne (by omega)]; (first | assumption | exact gs_at | (rw [gs_ne (by omega)]; (first | assumption | exact gs_at | (rw [gs_ne (by omega)]; (first | assumption | exact gs_at))))))))) rfl ?_
      refine w_iconst (v := (-1)) dX8_plain_37 (by decide) ?_
      refine w_icmp_eq (tgt := 43) dX8_plain_38 (by decide) (fun c_38 => ?_) (fun c_38 => ?_)
      · try simp only [nI_b2, Decidable.not_not, ne_eq] at c_38
        obtain ⟨q1, q2, q3⟩ := g3 c_38
        have q3 := q3.symm
        subst q3
        rw [c_38]
        exact ml_pl43 hT hn hy hF hb0 c_6 c_20 c_38 q1 q2 g4 (fun r G1 h1 h2 h3 => ⟨r, rfl, h1, h2, h3⟩)
      · try simp only [nI_b2, Decidable.not_not, ne_eq] at c_38
        have ebad : (pPl y n (b, -1)).1.2 = (pSum y n (b, -1)).1.2 := by rw [pPl, if_neg c_6, if_neg c_20]; exact pAtE_bad c_38
        refine w_iconst (v := nI 0) dX8_plain_41 (by decide) ?_
        refine w_zret dX8_plain_42 rfl rfl (Nat.le_of_ble_eq_true rfl) (Nat.le_of_ble_eq_true rfl) ?_
        exact ⟨_, rfl, LPo.bad (R := (pSum y n (b, -1)).1) ⟨p7, dp7, g1, rfl, fun h => absurd h c_38⟩ c_38 ebad, by decide, fun h => absurd (ebad.symm.trans h) c_38⟩
    · try simp only [nI_b2, Decidable.not_not, ne_eq] at c_20
      rw [if_pos c_20] at k3_17
      subst k3_17
      refine w_aload_n dX8_plain_23 rfl ?_
      refine w_getf dX8_plain_24 fl_X8_176 (by first | assumption | exact gs_at | (rw [gs_ne (by omega)]; (first | assumption | exact gs_at | (rw [gs_ne (by omega)]; (first | assumption | exact gs_at | (rw [gs_ne (by omega)]; (first | assumption | exact gs_at | (rw [gs_ne (by omega)]; (first | assumption | exact gs_at))))))))) rfl ?_
      refine w_zretN dX8_plain_27 rfl rfl (Nat.le_of_ble_eq_true rfl) (Nat.le_of_ble_eq_true rfl) ?_
      have e : pPl y n (b, -1) = (tkS y n (b, -1), [-9]) := by rw [pPl, if_neg c_6, if_pos c_20]
      rw [e]
      exact ⟨_, rfl, ⟨_, dp, htb, rfl, fun _ => ⟨htb, rfl, rfl⟩⟩, Bo.of _, fun _ T k hf => ⟨_, by rw [hf.2.2.2.2.2.2.2.2.1]; exact Bo.v (b2_le _), fun b hb => EvV.home hb⟩⟩
  · try simp only [nI_b2, Decidable.not_not, ne_eq] at c_6
    rw [if_pos c_6] at k3_3
    subst k3_3
    refine w_aload_n dX8_plain_9 rfl ?_
    refine w_getf dX8_plain_10 fl_X8_172 (by first | assumption | exact gs_at | (rw [gs_ne (by omega)]; (first | assumption | exact gs_at | (rw [gs_ne (by omega)]; (first | assumption | exact gs_at | (rw [gs_ne (by omega)]; (first | assumption | exact gs_at | (rw [gs_ne (by omega)]; (first | assumption | exact gs_at))))))))) rfl ?_
    refine w_zretN dX8_plain_13 rfl rfl (Nat.le_of_ble_eq_true rfl) (Nat.le_of_ble_eq_true rfl) ?_
    have e : pPl y n (b, -1) = (tkS y n (b, -1), [-8]) := by rw [pPl, if_pos c_6]
    rw [e]
    exact ⟨_, rfl, ⟨_, dp, htb, rfl, fun _ => ⟨htb, rfl, rfl⟩⟩, Bo.of _, fun _ T k hf => ⟨_, by rw [hf.2.2.2.2.2.2.2.1]; exact Bo.v (b2_le _), fun b hb => EvV.own hb⟩⟩
