/-! the model: its letters, words, figures -/
def TxP (G : AH) (V : Nat) (ba : Int32) (y : Nat → Nat) (n : Nat) : Prop := (ba = -1 ∧ G.1 (V + 5) = some (aI 400 (fun i => nI (y i)))) ∨ (ba = nI 350 ∧ ∃ mm : Nat → Int32, G.1 (V + 1) = some (aI 750 mm) ∧ ∀ i, i < n → mm (350 + i) = nI (y i))
theorem TxP.gs {G : AH} {V n : Nat} {ba : Int32} {y : Nat → Nat} {x : HC} (h : TxP G V ba y n) : TxP (gs G V x) V ba y n := by
  rcases h with ⟨h1, h2⟩ | ⟨h1, mm, h2, h3⟩
  · exact Or.inl ⟨h1, (gs_ne (by omega)).trans h2⟩
  · exact Or.inr ⟨h1, mm, (gs_ne (by omega)).trans h2, h3⟩
theorem lkO_69 : LkV "HalfIsleModel" 69 kJ0_length_8abf5 0 := ⟨u_1350, u_652, u_653, mk_J0_length_8abf5⟩
theorem lkO_75 : LkV "HalfIsleModel" 75 kJ0_charAt_5068e 1 := ⟨u_1351, u_662, u_663, mk_J0_charAt_5068e⟩
theorem skp_skp {y : Nat → Nat} {n p : Nat} (hn : n ≤ 400) : skp y n (skp y n p) = skp y n p := skp_out (skp_stop hn)
theorem m_letter {E : EV} {V n p : Nat} {th hi ac tp ba fa dp io hm_ we sh so : Int32} {y : Nat → Nat} {G : AH} {j : Nat} (hV : G.1 V = some (mO V th hi ac tp ba (nI n) (nI (p)) (fa) dp io hm_ we sh so)) (hT : TxP G V ba y n) (hn : n ≤ 400) (hy : ∀ i, y i < 256) (hp : p ≤ n) (hj : j < n) : Cu E 1 kX8_letter [.ref V, .int (nI j)] G (.int (nI (y j))) G := by
  rcases hT with ⟨hb, ht⟩ | ⟨hb, mm, ht, hmm⟩
  · refine Ct.intro rfl (by decide) [.ref V, .int (nI j)] (by simp [Value.category]) (Nat.le_of_ble_eq_true rfl) rfl ?_
    refine w_aload_n dX8_letter_0 rfl ?_
    refine w_getf dX8_letter_1 fl_X8_53 (by first | assumption | exact gs_at | (rw [gs_ne (by omega)]; (first | assumption | exact gs_at | (rw [gs_ne (by omega)]; (first | assumption | exact gs_at | (rw [gs_ne (by omega)]; (first | assumption | exact gs_at | (rw [gs_ne (by omega)]; (first | assumption | exact gs_at))))))))) rfl ?_
    refine w_iconst (v := (-1)) dX8_letter_4 (by decide) ?_
    refine w_icmp_ne (tgt := 17) dX8_letter_5 (by decide) (fun c_5 => ?_) (fun c_5 => ?_)
    · skip
      exact absurd hb c_5
    · skip
      refine w_aload_n dX8_letter_8 rfl ?_
      refine w_getf dX8_letter_9 fl_X8_22 (by first | assumption | exact gs_at | (rw [gs_ne (by omega)]; (first | assumption | exact gs_at | (rw [gs_ne (by omega)]; (first | assumption | exact gs_at | (rw [gs_ne (by omega)]; (first | assumption | exact gs_at | (rw [gs_ne (by omega)]; (first | assumption | exact gs_at))))))))) rfl ?_
      refine w_iload_n dX8_letter_12 rfl ?_
      refine w_iaload dX8_letter_13 (by first | assumption | exact gs_at | (rw [gs_ne (by omega)]; (first | assumption | exact gs_at | (rw [gs_ne (by omega)]; (first | assumption | exact gs_at | (rw [gs_ne (by omega)]; (first | assumption | exact gs_at | (rw [gs_ne (by omega)]; (first | assumption | exact gs_at))))))))) (by first | assumption | exact vp_in_nI (by omega) (by omega) | exact vp_in_nI (by assumption) (by omega)) ?_
      rw [nI_clamp (by omega)]
      refine w_goto (tgt := 28) dX8_letter_14 (by decide) ?_
      refine w_iret dX8_letter_28 rfl (Nat.le_of_ble_eq_true rfl) (Nat.le_of_ble_eq_true rfl) ?_
      exact ⟨rfl, rfl⟩
  · refine Ct.intro rfl (by decide) [.ref V, .int (nI j)] (by simp [Value.category]) (Nat.le_of_ble_eq_true rfl) rfl ?_
    refine w_aload_n dX8_letter_0 rfl ?_
    refine w_getf dX8_letter_1 fl_X8_53 (by first | assumption | exact gs_at | (rw [gs_ne (by omega)]; (first | assumption | exact gs_at | (rw [gs_ne (by omega)]; (first | assumption | exact gs_at | (rw [gs_ne (by omega)]; (first | assumption | exact gs_at | (rw [gs_ne (by omega)]; (first | assumption | exact gs_at))))))))) rfl ?_
    refine w_iconst (v := (-1)) dX8_letter_4 (by decide) ?_
    refine w_icmp_ne (tgt := 17) dX8_letter_5 (by decide) (fun c_5 => ?_) (fun c_5 => ?_)
    · skip
      refine w_aload_n dX8_letter_17 rfl ?_
      refine w_getf dX8_letter_18 fl_X8_7 (by first | assumption | exact gs_at | (rw [gs_ne (by omega)]; (first | assumption | exact gs_at | (rw [gs_ne (by omega)]; (first | assumption | exact gs_at | (rw [gs_ne (by omega)]; (first | assumption | exact gs_at | (rw [gs_ne (by omega)]; (first | assumption | exact gs_at))))))))) rfl ?_
      refine w_aload_n dX8_letter_21 rfl ?_
      refine w_getf dX8_letter_22 fl_X8_53 (by first | assumption | exact gs_at | (rw [gs_ne (by omega)]; (first | assumption | exact gs_at | (rw [gs_ne (by omega)]; (first | assumption | exact gs_at | (rw [gs_ne (by omega)]; (first | assumption | exact gs_at | (rw [gs_ne (by omega)]; (first | assumption | exact gs_at))))))))) rfl ?_
      refine w_iload_n dX8_letter_25 rfl ?_
      rw [hb]
      first | refine w_iaddN dX8_letter_26 ?_ | refine w_iadd dX8_letter_26 ?_
      refine w_iaload dX8_letter_27 (by first | assumption | exact gs_at | (rw [gs_ne (by omega)]; (first | assumption | exact gs_at | (rw [gs_ne (by omega)]; (first | assumption | exact gs_at | (rw [gs_ne (by omega)]; (first | assumption | exact gs_at | (rw [gs_ne (by omega)]; (first | assumption | exact gs_at))))))))) (by first | assumption | exact vp_in_nI (by omega) (by omega) | exact vp_in_nI (by assumption) (by omega)) ?_
      rw [nI_clamp (by omega)]
      rw [hmm j hj]
      refine w_iret dX8_letter_28 rfl (Nat.le_of_ble_eq_true rfl) (Nat.le_of_ble_eq_true rfl) ?_
      exact ⟨rfl, rfl⟩
    · skip
      exact absurd (hb.symm.trans c_5) (by decide)
theorem ml_skip {E : EV} {Q : OC → AH → Prop} {V n : Nat} {th hi ac tp ba fa dp io hm_ we sh so : Int32} {y : Nat → Nat} {p0 : Nat} {G0 : AH} (hn : n ≤ 400) (hy : ∀ i, y i < 256) (hQ : Q (.inl none) (gs G0 V (mO V th hi ac tp ba (nI n) (nI (p0)) (fa) dp io hm_ we sh so))) : ∀ (k p : Nat), n - p < k → p ≤ n → TxP (gs G0 V (mO V th hi ac tp ba (nI n) (nI (p)) (fa) dp io hm_ we sh so)) V ba y n → skp y n p = p0 → Wp E 2 0 0 kX8_skip Q (gs G0 V (mO V th hi ac tp ba (nI n) (nI (p)) (fa) dp io hm_ we sh so)) (0, 0) 0 [.ref V] [] := by
  intro k
  induction k with
  | zero => intro p h; exact absurd h (by omega)
  | succ k ih =>
    intro p hk hp hT hs
    have hV : (gs G0 V (mO V th hi ac tp ba (nI n) (nI (p)) (fa) dp io hm_ we sh so)).1 V = some (mO V th hi ac tp ba (nI n) (nI (p)) (fa) dp io hm_ we sh so) := gs_at
    have hyp := hy p
    refine w_aload_n dX8_skip_0 rfl ?_
    refine w_getf dX8_skip_1 fl_X8_56 (by first | assumption | exact gs_at | (rw [gs_ne (by omega)]; (first | assumption | exact gs_at | (rw [gs_ne (by omega)]; (first | assumption | exact gs_at | (rw [gs_ne (by omega)]; (first | assumption | exact gs_at | (rw [gs_ne (by omega)]; (first | assumption | exact gs_at))))))))) rfl ?_
    refine w_aload_n dX8_skip_4 rfl ?_
    refine w_getf dX8_skip_5 fl_X8_59 (by first | assumption | exact gs_at | (rw [gs_ne (by omega)]; (first | assumption | exact gs_at | (rw [gs_ne (by omega)]; (first | assumption | exact gs_at | (rw [gs_ne (by omega)]; (first | assumption | exact gs_at | (rw [gs_ne (by omega)]; (first | assumption | exact gs_at))))))))) rfl ?_
    refine w_icmp_ge (tgt := 37) dX8_skip_8 (by decide) (fun c_8 => ?_) (fun c_8 => ?_)
    · try simp (disch := omega) only [nI_b2, Decidable.not_not, nI_ltI, nI_leI, nI_eq, ge_iff_le, gt_iff_lt, ne_eq, Nat.not_lt, Nat.not_le] at c_8
      refine w_vret dX8_skip_37 rfl (Nat.le_of_ble_eq_true rfl) (Nat.le_of_ble_eq_true rfl) ?_
      rw [skp_out (by omega)] at hs
      rw [hs]
      exact hQ
    · try simp (disch := omega) only [nI_b2, Decidable.not_not, nI_ltI, nI_leI, nI_eq, ge_iff_le, gt_iff_lt, ne_eq, Nat.not_lt, Nat.not_le] at c_8
      refine w_aload_n dX8_skip_11 rfl ?_
      refine w_aload_n dX8_skip_12 rfl ?_
      refine w_getf dX8_skip_13 fl_X8_56 (by first | assumption | exact gs_at | (rw [gs_ne (by omega)]; (first | assumption | exact gs_at | (rw [gs_ne (by omega)]; (first | assumption | exact gs_at | (rw [gs_ne (by omega)]; (first | assumption | exact gs_at | (rw [gs_ne (by omega)]; (first | assumption | exact gs_at))))))))) rfl ?_
      refine wV1u dX8_skip_16 lk_X8_62 rfl (by first | assumption | exact gs_at | (rw [gs_ne (by omega)]; (first | assumption | exact gs_at | (rw [gs_ne (by omega)]; (first | assumption | exact gs_at | (rw [gs_ne (by omega)]; (first | assumption | exact gs_at | (rw [gs_ne (by omega)]; (first | assumption | exact gs_at))))))))) rfl rfl (m_letter hV hT hn hy hp (by omega)) (Nat.le_of_ble_eq_true rfl) (Nat.le_of_ble_eq_true rfl) (Nat.le_of_ble_eq_true rfl) (Nat.le_of_ble_eq_true rfl) ?_
      refine w_bipush (v := nI 32) dX8_skip_19 (by decide) ?_
      refine w_icmp_ne (tgt := 37) dX8_skip_21 (by decide) (fun c_21 => ?_) (fun c_21 => ?_)
      · try simp (disch := omega) only [nI_b2, Decidable.not_not, nI_ltI, nI_leI, nI_eq, ge_iff_le, gt_iff_lt, ne_eq, Nat.not_lt, Nat.not_le] at c_21
        refine w_vret dX8_skip_37 rfl (Nat.le_of_ble_eq_true rfl) (Nat.le_of_ble_eq_true rfl) ?_
        rw [skp_out (by omega)] at hs
        rw [hs]
        exact hQ
      · try simp (disch := omega) only [nI_b2, Decidable.not_not, nI_ltI, nI_leI, nI_eq, ge_iff_le, gt_iff_lt, ne_eq, Nat.not_lt, Nat.not_le] at c_21
        refine w_aload_n dX8_skip_24 rfl ?_
        refine w_dup dX8_skip_25 rfl ?_
        refine w_getf dX8_skip_26 fl_X8_56 (by first | assumption | exact gs_at | (rw [gs_ne (by omega)]; (first | assumption | exact gs_at | (rw [gs_ne (by omega)]; (first | assumption | exact gs_at | (rw [gs_ne (by omega)]; (first | assumption | exact gs_at | (rw [gs_ne (by omega)]; (first | assumption | exact gs_at))))))))) rfl ?_
        refine w_iconst (v := nI 1) dX8_skip_29 (by decide) ?_
        first | refine w_iaddN dX8_skip_30 ?_ | refine w_iadd dX8_skip_30 ?_
        refine w_putf dX8_skip_31 fl_X8_56 (by first | assumption | exact gs_at | (rw [gs_ne (by omega)]; (first | assumption | exact gs_at | (rw [gs_ne (by omega)]; (first | assumption | exact gs_at | (rw [gs_ne (by omega)]; (first | assumption | exact gs_at | (rw [gs_ne (by omega)]; (first | assumption | exact gs_at))))))))) (by simp) rfl rfl ?_
        refine w_goto (tgt := 0) dX8_skip_34 (by decide) ?_
        rw [gs_gs]
        rw [skp_in hn (by omega) c_21] at hs
        exact ih (p + 1) (by omega) (by omega) (by have h9 := hT.gs (x := mO V th hi ac tp ba (nI n) (nI (p + 1)) (fa) dp io hm_ we sh so); rw [gs_gs] at h9; exact h9) hs
theorem m_skip {E : EV} {V n p : Nat} {th hi ac tp ba fa dp io hm_ we sh so : Int32} {y : Nat → Nat} {G : AH} (hV : G.1 V = some (mO V th hi ac tp ba (nI n) (nI (p)) (fa) dp io hm_ we sh so)) (hT : TxP G V ba y n) (hn : n ≤ 400) (hy : ∀ i, y i < 256) (hp : p ≤ n) : Cn E 2 kX8_skip [.ref V] G (gs G V (mO V th hi ac tp ba (nI n) (nI (skp y n p)) (fa) dp io hm_ we sh so)) := by
  refine Ct.intro rfl (by decide) [.ref V] (by simp [Value.category]) (Nat.le_of_ble_eq_true rfl) rfl ?_
  have h := ml_skip (E := E) (Q := fun o G1 => o = .inl none ∧ G1 = (gs G V (mO V th hi ac tp ba (nI n) (nI (skp y n p)) (fa) dp io hm_ we sh so))) (th := th) (hi := hi) (ac := ac) (tp := tp) (fa := fa) (dp := dp) (io := io) (hm_ := hm_) (we := we) (sh := sh) (so := so) (p0 := skp y n p) (G0 := G) hn hy ⟨rfl, rfl⟩ (n + 1) p (by omega) hp hT.gs rfl
  rw [gs_id hV] at h
  exact h
theorem m_place {E : EV} {V n p : Nat} {th hi ac tp ba fa dp io hm_ we sh so : Int32} {y : Nat → Nat} {G : AH}  (hV : G.1 V = some (mO V th hi ac tp ba (nI n) (nI (p)) (fa) dp io hm_ we sh so)) (hT : TxP G V ba y n) (hn : n ≤ 400) (hy : ∀ i, y i < 256) (hp : p ≤ n)  : Ci E 3 kX8_place [.ref V] G (fun r G1 => r = nI (skp y n p) ∧ G1 = (gs G V (mO V th hi ac tp ba (nI n) (nI (skp y n p)) (fa) dp io hm_ we sh so))) := by
  refine Ct.intro rfl (by decide) [.ref V] (by simp [Value.category]) (Nat.le_of_ble_eq_true rfl) rfl ?_
  refine w_aload_n dX8_place_0 rfl ?_
  refine wV0n dX8_place_1 lk_X8_66 rfl (by first | assumption | exact gs_at | (rw [gs_ne (by omega)]; (first | assumption | exact gs_at | (rw [gs_ne (by omega)]; (first | assumption | exact gs_at | (rw [gs_ne (by omega)]; (first | assumption | exact gs_at | (rw [gs_ne (by omega)]; (first | assumption | exact gs_at))))))))) rfl rfl (m_skip hV hT hn hy hp) (Nat.le_of_ble_eq_true rfl) (Nat.le_of_ble_eq_true rfl) (Nat.le_of_ble_eq_true rfl) (Nat.le_of_ble_eq_true rfl) ?_
  have hT1 := hT.gs (x := mO V th hi ac tp ba (nI n) (nI (skp y n p)) (fa) dp io hm_ we sh so)
  have hs1 := (skp_le (y := y) hp).2
  have hV1 : (gs G V (mO V th hi ac tp ba (nI n) (nI (skp y n p)) (fa) dp io hm_ we sh so)).1 V = some (mO V th hi ac tp ba (nI n) (nI (skp y n p)) (fa) dp io hm_ we sh so) := gs_at
  have hys := hy (skp y n p)
  refine w_aload_n dX8_place_4 rfl ?_
  refine w_getf dX8_place_5 fl_X8_56 (by first | assumption | exact gs_at | (rw [gs_ne (by omega)]; (first | assumption | exact gs_at | (rw [gs_ne (by omega)]; (first | assumption | exact gs_at | (rw [gs_ne (by omega)]; (first | assumption | exact gs_at | (rw [gs_ne (by omega)]; (first | assumption | exact gs_at))))))))) rfl ?_
  refine w_iret dX8_place_8 rfl (Nat.le_of_ble_eq_true rfl) (Nat.le_of_ble_eq_true rfl) ?_
  exact ⟨_, rfl, rfl, rfl⟩
theorem m_wrong {E : EV} {V n p : Nat} {th hi ac tp ba fa dp io hm_ we sh so : Int32} {y : Nat → Nat} {G : AH} {w : Int32} (hV : G.1 V = some (mO V th hi ac tp ba (nI n) (nI (p)) (fa) dp io hm_ we sh so)) (hT : TxP G V ba y n) (hn : n ≤ 400) (hy : ∀ i, y i < 256) (hp : p ≤ n)  : Cn E 1 kX8_wrong [.ref V, .int w] G (gs G V (mO V th hi ac tp ba (nI n) (nI (p)) (if fa = -1 then w else fa) dp io hm_ we sh so)) := by
  refine Ct.intro rfl (by decide) [.ref V, .int w] (by simp [Value.category]) (Nat.le_of_ble_eq_true rfl) rfl ?_
  refine w_aload_n dX8_wrong_0 rfl ?_
  refine w_getf dX8_wrong_1 fl_X8_25 (by first | assumption | exact gs_at | (rw [gs_ne (by omega)]; (first | assumption | exact gs_at | (rw [gs_ne (by omega)]; (first | assumption | exact gs_at | (rw [gs_ne (by omega)]; (first | assumption | exact gs_at | (rw [gs_ne (by omega)]; (first | assumption | exact gs_at))))))))) rfl ?_
  refine w_iconst (v := (-1)) dX8_wrong_4 (by decide) ?_
  refine w_icmp_ne (tgt := 13) dX8_wrong_5 (by decide) (fun c_5 => ?_) (fun c_5 => ?_)
  · skip
    refine w_vret dX8_wrong_13 rfl (Nat.le_of_ble_eq_true rfl) (Nat.le_of_ble_eq_true rfl) ?_
    first
      | exact ⟨rfl, by rw [if_pos c_5]; rfl⟩
      | exact ⟨rfl, by rw [if_neg c_5, gs_id hV]⟩
  · skip
    refine w_aload_n dX8_wrong_8 rfl ?_
    refine w_iload_n dX8_wrong_9 rfl ?_
    refine w_putf dX8_wrong_10 fl_X8_25 (by first | assumption | exact gs_at | (rw [gs_ne (by omega)]; (first | assumption | exact gs_at | (rw [gs_ne (by omega)]; (first | assumption | exact gs_at | (rw [gs_ne (by omega)]; (first | assumption | exact gs_at | (rw [gs_ne (by omega)]; (first | assumption | exact gs_at))))))))) (by simp) rfl rfl ?_
    refine w_vret dX8_wrong_13 rfl (Nat.le_of_ble_eq_true rfl) (Nat.le_of_ble_eq_true rfl) ?_
    first
      | exact ⟨rfl, by rw [if_pos c_5]; rfl⟩
      | exact ⟨rfl, by rw [if_neg c_5, gs_id hV]⟩
theorem m_isSign {E : EV} {V n p : Nat} {th hi ac tp ba fa dp io hm_ we sh so : Int32} {y : Nat → Nat} {G : AH} {c : Nat} (hV : G.1 V = some (mO V th hi ac tp ba (nI n) (nI (p)) (fa) dp io hm_ we sh so)) (hT : TxP G V ba y n) (hn : n ≤ 400) (hy : ∀ i, y i < 256) (hp : p ≤ n) (hc : c < 256) : Ci E 3 kX8_isSign [.ref V, .int (nI c)] G (fun r G1 => r = nI (b2 (skp y n p < n ∧ y (skp y n p) = c)) ∧ G1 = (gs G V (mO V th hi ac tp ba (nI n) (nI (skp y n p)) (fa) dp io hm_ we sh so))) := by
  refine Ct.intro rfl (by decide) [.ref V, .int (nI c)] (by simp [Value.category]) (Nat.le_of_ble_eq_true rfl) rfl ?_
  refine w_aload_n dX8_isSign_0 rfl ?_
  refine wV0n dX8_isSign_1 lk_X8_66 rfl (by first | assumption | exact gs_at | (rw [gs_ne (by omega)]; (first | assumption | exact gs_at | (rw [gs_ne (by omega)]; (first | assumption | exact gs_at | (rw [gs_ne (by omega)]; (first | assumption | exact gs_at | (rw [gs_ne (by omega)]; (first | assumption | exact gs_at))))))))) rfl rfl (m_skip hV hT hn hy hp) (Nat.le_of_ble_eq_true rfl) (Nat.le_of_ble_eq_true rfl) (Nat.le_of_ble_eq_true rfl) (Nat.le_of_ble_eq_true rfl) ?_
  have hT1 := hT.gs (x := mO V th hi ac tp ba (nI n) (nI (skp y n p)) (fa) dp io hm_ we sh so)
  have hs1 := (skp_le (y := y) hp).2
  have hV1 : (gs G V (mO V th hi ac tp ba (nI n) (nI (skp y n p)) (fa) dp io hm_ we sh so)).1 V = some (mO V th hi ac tp ba (nI n) (nI (skp y n p)) (fa) dp io hm_ we sh so) := gs_at
  have hys := hy (skp y n p)
  refine w_aload_n dX8_isSign_4 rfl ?_
  refine w_getf dX8_isSign_5 fl_X8_56 (by first | assumption | exact gs_at | (rw [gs_ne (by omega)]; (first | assumption | exact gs_at | (rw [gs_ne (by omega)]; (first | assumption | exact gs_at | (rw [gs_ne (by omega)]; (first | assumption | exact gs_at | (rw [gs_ne (by omega)]; (first | assumption | exact gs_at))))))))) rfl ?_
  refine w_aload_n dX8_isSign_8 rfl ?_
  refine w_getf dX8_isSign_9 fl_X8_59 (by first | assumption | exact gs_at | (rw [gs_ne (by omega)]; (first | assumption | exact gs_at | (rw [gs_ne (by omega)]; (first | assumption | exact gs_at | (rw [gs_ne (by omega)]; (first | assumption | exact gs_at | (rw [gs_ne (by omega)]; (first | assumption | exact gs_at))))))))) rfl ?_
  refine w_icmp_ge (tgt := 31) dX8_isSign_12 (by decide) (fun c_12 => ?_) (fun c_12 => ?_)
  · try simp (disch := omega) only [nI_b2, Decidable.not_not, nI_ltI, nI_leI, nI_eq, ge_iff_le, gt_iff_lt, ne_eq, Nat.not_lt, Nat.not_le] at c_12
    refine w_iconst (v := nI 0) dX8_isSign_31 (by decide) ?_
    refine w_zret dX8_isSign_32 rfl rfl (Nat.le_of_ble_eq_true rfl) (Nat.le_of_ble_eq_true rfl) ?_
    refine ⟨_, rfl, ?_, rfl⟩
    first
      | (rw [b2, if_pos ⟨by omega, by omega⟩]; done)
      | (rw [b2, if_neg (fun h => by have h1 := h.1; have h2 := h.2; omega)]; done)
  · try simp (disch := omega) only [nI_b2, Decidable.not_not, nI_ltI, nI_leI, nI_eq, ge_iff_le, gt_iff_lt, ne_eq, Nat.not_lt, Nat.not_le] at c_12
    refine w_aload_n dX8_isSign_15 rfl ?_
    refine w_aload_n dX8_isSign_16 rfl ?_
    refine w_getf dX8_isSign_17 fl_X8_56 (by first | assumption | exact gs_at | (rw [gs_ne (by omega)]; (first | assumption | exact gs_at | (rw [gs_ne (by omega)]; (first | assumption | exact gs_at | (rw [gs_ne (by omega)]; (first | assumption | exact gs_at | (rw [gs_ne (by omega)]; (first | assumption | exact gs_at))))))))) rfl ?_
    refine wV1u dX8_isSign_20 lk_X8_62 rfl (by first | assumption | exact gs_at | (rw [gs_ne (by omega)]; (first | assumption | exact gs_at | (rw [gs_ne (by omega)]; (first | assumption | exact gs_at | (rw [gs_ne (by omega)]; (first | assumption | exact gs_at | (rw [gs_ne (by omega)]; (first | assumption | exact gs_at))))))))) rfl rfl (m_letter hV1 hT1 hn hy hs1 (by omega)) (Nat.le_of_ble_eq_true rfl) (Nat.le_of_ble_eq_true rfl) (Nat.le_of_ble_eq_true rfl) (Nat.le_of_ble_eq_true rfl) ?_
    refine w_iload_n dX8_isSign_23 rfl ?_
    refine w_icmp_ne (tgt := 31) dX8_isSign_24 (by decide) (fun c_24 => ?_) (fun c_24 => ?_)
    · try simp (disch := omega) only [nI_b2, Decidable.not_not, nI_ltI, nI_leI, nI_eq, ge_iff_le, gt_iff_lt, ne_eq, Nat.not_lt, Nat.not_le] at c_24
      refine w_iconst (v := nI 0) dX8_isSign_31 (by decide) ?_
      refine w_zret dX8_isSign_32 rfl rfl (Nat.le_of_ble_eq_true rfl) (Nat.le_of_ble_eq_true rfl) ?_
      refine ⟨_, rfl, ?_, rfl⟩
      first
        | (rw [b2, if_pos ⟨by omega, by omega⟩]; done)
        | (rw [b2, if_neg (fun h => by have h1 := h.1; have h2 := h.2; omega)]; done)
    · try simp (disch := omega) only [nI_b2, Decidable.not_not, nI_ltI, nI_leI, nI_eq, ge_iff_le, gt_iff_lt, ne_eq, Nat.not_lt, Nat.not_le] at c_24
      refine w_iconst (v := nI 1) dX8_isSign_27 (by decide) ?_
      refine w_goto (tgt := 32) dX8_isSign_28 (by decide) ?_
      refine w_zret dX8_isSign_32 rfl rfl (Nat.le_of_ble_eq_true rfl) (Nat.le_of_ble_eq_true rfl) ?_
      refine ⟨_, rfl, ?_, rfl⟩
      first
        | (rw [b2, if_pos ⟨by omega, by omega⟩]; done)
        | (rw [b2, if_neg (fun h => by have h1 := h.1; have h2 := h.2; omega)]; done)
theorem ml_hasC {E : EV} {Q : OC → AH → Prop} {V n p : Nat} {th hi ac tp ba fa dp io hm_ we sh so : Int32} {y : Nat → Nat} {G : AH} {i0 : Nat} {q : String × Nat × String × List Int32} {ws : List Nat} (hi0 : strT[i0]? = some q) (hq : q.2.2.2 = ws.map nI) (hw : ∀ j, j < ws.length → ws.getD j 0 < 128) (hl : ws.length < 2 ^ 20) (hV : G.1 V = some (mO V th hi ac tp ba (nI n) (nI (p)) (fa) dp io hm_ we sh so)) (hT : TxP G V ba y n) (hn : n ≤ 400) (hy : ∀ i, y i < 256) (hp : p ≤ n) {k0 : Nat} (hlen : p + ws.length = k0) (hk0 : k0 ≤ n) (hQ0 : (¬ ∀ j, j < ws.length → ws.getD j 0 = y (p + j)) → Q (.inl (some (.int (nI 0)))) G) (hQ1 : (∀ j, j < ws.length → ws.getD j 0 = y (p + j)) → Q (.inl (some (.int (nI 1)))) (gs G V (mO V th hi ac tp ba (nI n) (nI (k0)) (fa) dp io hm_ we sh so))) : ∀ (k i : Nat), ws.length - i < k → i ≤ ws.length → (∀ j, j < i → ws.getD j 0 = y (p + j)) → Wp E 7 0 0 kX8_has Q G (0, 0) 55 [.ref V, .ref (eK E i0), .int (nI k0), .int (nI i)] [] := by
  have hql : q.2.2.2.length = ws.length := by rw [hq, List.length_map]
  intro k
  induction k with
  | zero => intro i h; exact absurd h (by omega)
  | succ k ih =>
    intro i hk hil hpre
    have hyi := hy (p + i)
    refine w_iload_n dX8_has_55 rfl ?_
    refine w_aload_n dX8_has_56 rfl ?_
    refine wc_O hi0 dX8_has_57 lkO_69 rfl (As := []) rfl rfl (Nat.le_of_ble_eq_true rfl) (c_length hi0) rfl (Nat.le_of_ble_eq_true rfl) (Nat.le_of_ble_eq_true rfl) (Nat.le_of_ble_eq_true rfl) ?_
    rw [hql]
    refine w_icmp_ge (tgt := 89) dX8_has_60 (by decide) (fun c_60 => ?_) (fun c_60 => ?_)
    · try simp (disch := omega) only [nI_b2, Decidable.not_not, nI_ltI, nI_leI, nI_eq, ge_iff_le, gt_iff_lt, ne_eq, Nat.not_lt, Nat.not_le] at c_60
      refine w_aload_n dX8_has_89 rfl ?_
      refine w_iload_n dX8_has_90 rfl ?_
      refine w_putf dX8_has_91 fl_X8_56 (by first | assumption | exact gs_at | (rw [gs_ne (by omega)]; (first | assumption | exact gs_at | (rw [gs_ne (by omega)]; (first | assumption | exact gs_at | (rw [gs_ne (by omega)]; (first | assumption | exact gs_at | (rw [gs_ne (by omega)]; (first | assumption | exact gs_at))))))))) (by simp) rfl rfl ?_
      refine w_iconst (v := nI 1) dX8_has_94 (by decide) ?_
      refine w_zret dX8_has_95 rfl rfl (Nat.le_of_ble_eq_true rfl) (Nat.le_of_ble_eq_true rfl) ?_
      exact hQ1 (fun j hj => hpre j (by omega))
    · try simp (disch := omega) only [nI_b2, Decidable.not_not, nI_ltI, nI_leI, nI_eq, ge_iff_le, gt_iff_lt, ne_eq, Nat.not_lt, Nat.not_le] at c_60
      refine w_aload_n dX8_has_63 rfl ?_
      refine w_aload_n dX8_has_64 rfl ?_
      refine w_getf dX8_has_65 fl_X8_56 (by first | assumption | exact gs_at | (rw [gs_ne (by omega)]; (first | assumption | exact gs_at | (rw [gs_ne (by omega)]; (first | assumption | exact gs_at | (rw [gs_ne (by omega)]; (first | assumption | exact gs_at | (rw [gs_ne (by omega)]; (first | assumption | exact gs_at))))))))) rfl ?_
      refine w_iload_n dX8_has_68 rfl ?_
      first | refine w_iaddN dX8_has_69 ?_ | refine w_iadd dX8_has_69 ?_
      refine wV1u dX8_has_70 lk_X8_62 rfl (by first | assumption | exact gs_at | (rw [gs_ne (by omega)]; (first | assumption | exact gs_at | (rw [gs_ne (by omega)]; (first | assumption | exact gs_at | (rw [gs_ne (by omega)]; (first | assumption | exact gs_at | (rw [gs_ne (by omega)]; (first | assumption | exact gs_at))))))))) rfl rfl (m_letter hV hT hn hy hp (by omega)) (Nat.le_of_ble_eq_true rfl) (Nat.le_of_ble_eq_true rfl) (Nat.le_of_ble_eq_true rfl) (Nat.le_of_ble_eq_true rfl) ?_
      refine w_aload_n dX8_has_73 rfl ?_
      refine w_iload_n dX8_has_74 rfl ?_
      refine wc_O hi0 dX8_has_75 lkO_75 rfl (As := [.int (nI i)]) rfl rfl (Nat.le_of_ble_eq_true rfl) (c_charAt hi0 (j := i) (t := ws.getD i 0) (by rw [hq, List.getElem?_map, List.getElem?_eq_getElem (by omega), Option.map_some, List.getD_eq_getElem?_getD, List.getElem?_eq_getElem (by omega)]; rfl) (hw i (by omega)) (by omega)) rfl (Nat.le_of_ble_eq_true rfl) (Nat.le_of_ble_eq_true rfl) (Nat.le_of_ble_eq_true rfl) ?_
      have hwi := hw i (by omega)
      refine w_icmp_eq (tgt := 83) dX8_has_78 (by decide) (fun c_78 => ?_) (fun c_78 => ?_)
      · try simp (disch := omega) only [nI_b2, Decidable.not_not, nI_ltI, nI_leI, nI_eq, ge_iff_le, gt_iff_lt, ne_eq, Nat.not_lt, Nat.not_le] at c_78
        first | refine w_iinc_3 dX8_has_83 (nI_inc _) rfl ?_ | refine w_iinc_3 dX8_has_83 rfl rfl ?_
        refine w_goto (tgt := 55) dX8_has_86 (by decide) ?_
        exact ih (i + 1) (by omega) (by omega) (fun j hj => by rcases Nat.lt_succ_iff_lt_or_eq.mp hj with h | h; exact hpre j h; subst h; exact c_78.symm)
      · try simp (disch := omega) only [nI_b2, Decidable.not_not, nI_ltI, nI_leI, nI_eq, ge_iff_le, gt_iff_lt, ne_eq, Nat.not_lt, Nat.not_le] at c_78
        refine w_iconst (v := nI 0) dX8_has_81 (by decide) ?_
        refine w_zret dX8_has_82 rfl rfl (Nat.le_of_ble_eq_true rfl) (Nat.le_of_ble_eq_true rfl) ?_
        exact hQ0 (fun h => c_78 ((h i (by omega)).symm))
theorem inN_eq {x a b : Nat} (hx : x < 256 ∧ a < 256 ∧ b < 256) : b2 (inP (nI x) (nI a) (nI b)) = b2 (a ≤ x ∧ x ≤ b) := by
  have e : (inP (nI x) (nI a) (nI b)) = (a ≤ x ∧ x ≤ b) := by
    unfold inP
    rw [nI_ltI (by omega) (by omega), nI_leI (by omega) (by omega), Nat.not_lt]
  unfold b2
  by_cases h : a ≤ x ∧ x ≤ b
  · rw [if_pos h, if_pos (e ▸ h)]
  · rw [if_neg h, if_neg (fun h2 => h (e ▸ h2))]
theorem ml_hasR {E : EV} {Q : OC → AH → Prop} {V n p : Nat} {th hi ac tp ba fa dp io hm_ we sh so : Int32} {y : Nat → Nat} {G : AH} {i0 : Nat} {q : String × Nat × String × List Int32} {ws : List Nat} (hi0 : strT[i0]? = some q) (hq : q.2.2.2 = ws.map nI) (hw : ∀ j, j < ws.length → ws.getD j 0 < 128) (hl : ws.length < 2 ^ 20) (hV : G.1 V = some (mO V th hi ac tp ba (nI n) (nI (p)) (fa) dp io hm_ we sh so)) (hT : TxP G V ba y n) (hn : n ≤ 400) (hy : ∀ i, y i < 256) (hp : p ≤ n) {k0 : Nat} {z : Value} (kk : Wp E 7 0 0 kX8_has Q G (0, 0) 38 [.ref V, .ref (eK E i0), .int (nI k0), z] []) : ∀ (k i : Nat), n - i < k → i ≤ n → run y n 97 122 i = k0 → Wp E 7 0 0 kX8_has Q G (0, 0) 9 [.ref V, .ref (eK E i0), .int (nI i), z] [] := by
  intro k
  induction k with
  | zero => intro i h; exact absurd h (by omega)
  | succ k ih =>
    intro i hk hil hr
    have hyi := hy i
    refine w_iload_n dX8_has_9 rfl ?_
    refine w_aload_n dX8_has_10 rfl ?_
    refine w_getf dX8_has_11 fl_X8_59 (by first | assumption | exact gs_at | (rw [gs_ne (by omega)]; (first | assumption | exact gs_at | (rw [gs_ne (by omega)]; (first | assumption | exact gs_at | (rw [gs_ne (by omega)]; (first | assumption | exact gs_at | (rw [gs_ne (by omega)]; (first | assumption | exact gs_at))))))))) rfl ?_
    refine w_icmp_ge (tgt := 38) dX8_has_14 (by decide) (fun c_14 => ?_) (fun c_14 => ?_)
    · try simp (disch := omega) only [nI_b2, Decidable.not_not, nI_ltI, nI_leI, nI_eq, ge_iff_le, gt_iff_lt, ne_eq, Nat.not_lt, Nat.not_le] at c_14
      rw [run_out (by omega)] at hr
      rw [hr]
      exact kk
    · try simp (disch := omega) only [nI_b2, Decidable.not_not, nI_ltI, nI_leI, nI_eq, ge_iff_le, gt_iff_lt, ne_eq, Nat.not_lt, Nat.not_le] at c_14
      refine w_aload_n dX8_has_17 rfl ?_
      refine w_iload_n dX8_has_18 rfl ?_
      refine wV1u dX8_has_19 lk_X8_62 rfl (by first | assumption | exact gs_at | (rw [gs_ne (by omega)]; (first | assumption | exact gs_at | (rw [gs_ne (by omega)]; (first | assumption | exact gs_at | (rw [gs_ne (by omega)]; (first | assumption | exact gs_at | (rw [gs_ne (by omega)]; (first | assumption | exact gs_at))))))))) rfl rfl (m_letter hV hT hn hy hp (by omega)) (Nat.le_of_ble_eq_true rfl) (Nat.le_of_ble_eq_true rfl) (Nat.le_of_ble_eq_true rfl) (Nat.le_of_ble_eq_true rfl) ?_
      refine w_bipush (v := nI 97) dX8_has_22 (by decide) ?_
      refine w_bipush (v := nI 122) dX8_has_24 (by decide) ?_
      refine wS3u dX8_has_26 lk_X8_42 rfl (m_isIn) (Nat.le_of_ble_eq_true rfl) (Nat.le_of_ble_eq_true rfl) (Nat.le_of_ble_eq_true rfl) (Nat.le_of_ble_eq_true rfl) ?_
      rw [inN_eq (by omega)]
      refine w_ifN_eq (tgt := 38) dX8_has_29 (by decide) (fun c_29 => ?_) (fun c_29 => ?_)
      · try simp (disch := omega) only [nI_b2, Decidable.not_not, nI_ltI, nI_leI, nI_eq, ge_iff_le, gt_iff_lt, ne_eq, Nat.not_lt, Nat.not_le] at c_29
        rw [run_out (by omega)] at hr
        rw [hr]
        exact kk
      · try simp (disch := omega) only [nI_b2, Decidable.not_not, nI_ltI, nI_leI, nI_eq, ge_iff_le, gt_iff_lt, ne_eq, Nat.not_lt, Nat.not_le] at c_29
        first | refine w_iinc_2 dX8_has_32 (nI_inc _) rfl ?_ | refine w_iinc_2 dX8_has_32 rfl rfl ?_
        refine w_goto (tgt := 9) dX8_has_35 (by decide) ?_
        rw [run_in hn (by omega) (by omega) (by omega)] at hr
        exact ih (i + 1) (by omega) (by omega) hr
/-- what the model's has tells is what the class's reader tells -/
theorem has_eq {y : Nat → Nat} {n p : Nat} {ws : List Nat} (h0 : 0 < ws.length) (ha : ∀ j, j < ws.length → 97 ≤ ws.getD j 0 ∧ ws.getD j 0 ≤ 122) : (run y n 97 122 p = p + ws.length ∧ ∀ j, j < ws.length → ws.getD j 0 = y (p + j)) ↔ atB y n p ws = true := by
  rw [atB_iff]
  unfold atW tokE
  constructor
  · intro ⟨h1, h2⟩
    refine ⟨?_, h2⟩
    have h3 := h2 0 h0
    have h4 := ha 0 h0
    rw [Nat.add_zero] at h3
    by_cases hp : p < n
    · rw [if_pos hp, if_pos ⟨by omega, by omega⟩]; exact h1
    · have h5 : run y n 97 122 p = p := run_out (fun h => hp h.1)
      omega
  · intro ⟨h1, h2⟩
    refine ⟨?_, h2⟩
    have h3 := h2 0 h0
    have h4 := ha 0 h0
    rw [Nat.add_zero] at h3
    by_cases hp : p < n
    · rw [if_pos hp, if_pos ⟨by omega, by omega⟩] at h1; exact h1
    · rw [if_neg hp] at h1; omega
theorem m_has {E : EV} {V n p : Nat} {th hi ac tp ba fa dp io hm_ we sh so : Int32} {y : Nat → Nat} {G : AH} {i0 : Nat} {q : String × Nat × String × List Int32} {ws : List Nat} (hi0 : strT[i0]? = some q) (hq : q.2.2.2 = ws.map nI) (hw : ∀ j, j < ws.length → ws.getD j 0 < 128) (hl : ws.length < 2 ^ 20) (h0 : 0 < ws.length) (ha : ∀ j, j < ws.length → 97 ≤ ws.getD j 0 ∧ ws.getD j 0 ≤ 122) (hV : G.1 V = some (mO V th hi ac tp ba (nI n) (nI (p)) (fa) dp io hm_ we sh so)) (hT : TxP G V ba y n) (hn : n ≤ 400) (hy : ∀ i, y i < 256) (hp : p ≤ n) : Ci E 7 kX8_has [.ref V, .ref (eK E i0)] G (fun r G1 => r = nI (b2 (atB y n (skp y n p) ws = true)) ∧ G1 = gs G V (mO V th hi ac tp ba (nI n) (nI (if atB y n (skp y n p) ws = true then tokE y n (skp y n p) else skp y n p)) (fa) dp io hm_ we sh so)) := by
  have hql : q.2.2.2.length = ws.length := by rw [hq, List.length_map]
  refine Ct.intro rfl (by decide) [.ref V, .ref (eK E i0), .float 0, .float 0] (by simp [Value.category]) (Nat.le_of_ble_eq_true rfl) rfl ?_
  refine w_aload_n dX8_has_0 rfl ?_
  refine wV0n dX8_has_1 lk_X8_66 rfl (by first | assumption | exact gs_at | (rw [gs_ne (by omega)]; (first | assumption | exact gs_at | (rw [gs_ne (by omega)]; (first | assumption | exact gs_at | (rw [gs_ne (by omega)]; (first | assumption | exact gs_at | (rw [gs_ne (by omega)]; (first | assumption | exact gs_at))))))))) rfl rfl (m_skip hV hT hn hy hp) (Nat.le_of_ble_eq_true rfl) (Nat.le_of_ble_eq_true rfl) (Nat.le_of_ble_eq_true rfl) (Nat.le_of_ble_eq_true rfl) ?_
  have hT1 := hT.gs (x := mO V th hi ac tp ba (nI n) (nI (skp y n p)) (fa) dp io hm_ we sh so)
  have hs1 := (skp_le (y := y) hp).2
  have hV1 : (gs G V (mO V th hi ac tp ba (nI n) (nI (skp y n p)) (fa) dp io hm_ we sh so)).1 V = some (mO V th hi ac tp ba (nI n) (nI (skp y n p)) (fa) dp io hm_ we sh so) := gs_at
  have hys := hy (skp y n p)
  refine w_aload_n dX8_has_4 rfl ?_
  refine w_getf dX8_has_5 fl_X8_56 (by first | assumption | exact gs_at | (rw [gs_ne (by omega)]; (first | assumption | exact gs_at | (rw [gs_ne (by omega)]; (first | assumption | exact gs_at | (rw [gs_ne (by omega)]; (first | assumption | exact gs_at | (rw [gs_ne (by omega)]; (first | assumption | exact gs_at))))))))) rfl ?_
  refine w_istore_2 dX8_has_8 rfl ?_
  refine ml_hasR hi0 hq hw hl hV1 hT1 hn hy hs1 (k0 := run y n 97 122 (skp y n p)) ?_ (n + 1) (skp y n p) (by omega) hs1 rfl
  have hrl := run_le (y := y) (lo := 97) (hi := 122) hs1
  refine w_iload_n dX8_has_38 rfl ?_
  refine w_aload_n dX8_has_39 rfl ?_
  refine w_getf dX8_has_40 fl_X8_56 (by first | assumption | exact gs_at | (rw [gs_ne (by omega)]; (first | assumption | exact gs_at | (rw [gs_ne (by omega)]; (first | assumption | exact gs_at | (rw [gs_ne (by omega)]; (first | assumption | exact gs_at | (rw [gs_ne (by omega)]; (first | assumption | exact gs_at))))))))) rfl ?_
  refine w_isubN (hrl.1) dX8_has_43 ?_
  refine w_aload_n dX8_has_44 rfl ?_
  refine wc_O hi0 dX8_has_45 lkO_69 rfl (As := []) rfl rfl (Nat.le_of_ble_eq_true rfl) (c_length hi0) rfl (Nat.le_of_ble_eq_true rfl) (Nat.le_of_ble_eq_true rfl) (Nat.le_of_ble_eq_true rfl) ?_
  rw [hql]
  refine w_icmp_eq (tgt := 53) dX8_has_48 (by decide) (fun c_48 => ?_) (fun c_48 => ?_)
  · try simp (disch := omega) only [nI_b2, Decidable.not_not, nI_ltI, nI_leI, nI_eq, ge_iff_le, gt_iff_lt, ne_eq, Nat.not_lt, Nat.not_le] at c_48
    refine w_iconst (v := nI 0) dX8_has_53 (by decide) ?_
    refine w_istore_3 dX8_has_54 rfl ?_
    have hlen : skp y n p + ws.length = run y n 97 122 (skp y n p) := by omega
    refine ml_hasC hi0 hq hw hl hV1 hT1 hn hy hs1 hlen hrl.2 (fun h9 => ?_) (fun h9 => ?_) (ws.length + 1) 0 (by omega) (by omega) (fun j hj => absurd hj (by omega))
    · have hno : ¬ atB y n (skp y n p) ws = true := fun h => h9 ((has_eq h0 ha).mpr h).2
      exact ⟨_, rfl, by rw [b2, if_neg hno], by rw [if_neg hno]⟩
    · have hyes : atB y n (skp y n p) ws = true := (has_eq h0 ha).mp ⟨hlen.symm, h9⟩
      have htk : tokE y n (skp y n p) = skp y n p + ws.length := (atB_iff.mp hyes).1
      exact ⟨_, rfl, by rw [b2, if_pos hyes], by rw [if_pos hyes, htk, hlen, gs_gs]⟩
  · try simp (disch := omega) only [nI_b2, Decidable.not_not, nI_ltI, nI_leI, nI_eq, ge_iff_le, gt_iff_lt, ne_eq, Nat.not_lt, Nat.not_le] at c_48
    refine w_iconst (v := nI 0) dX8_has_51 (by decide) ?_
    refine w_zret dX8_has_52 rfl rfl (Nat.le_of_ble_eq_true rfl) (Nat.le_of_ble_eq_true rfl) ?_
    have hno : ¬ atB y n (skp y n p) ws = true := fun h => c_48 (by have := ((has_eq h0 ha).mpr h).1; omega)
    exact ⟨_, rfl, by rw [b2, if_neg hno], by rw [if_neg hno]⟩
