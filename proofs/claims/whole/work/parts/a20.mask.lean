/-! the model: the law is asked -/
theorem m_readL {E : EV} {V n : Nat} {th hi ac tp ba io hm_ we0 sh0 so0 : Int32} {y : Nat → Nat} {G : AH} {F : Nat → Int32} {X0 : LX} {ww : Nat → Int32} {wn : Nat} {dp0 : Int32} (hV : G.1 V = some (mO V th hi ac tp ba (nI n) (nI (0)) (-1) (nI 0) io hm_ (we0) (sh0) (so0))) (hT : TxP G V ba y n) (hn : n ≤ 400) (hy : ∀ i, y i < 256) (hF : G.1 (V + 6) = some (aI 7 F)) : Ci E 55 kX8_read [.ref V, .int (nI 1)] G (fun r G1 => ∃ (j p2 : Nat) (dp2 fa2 we2 sh2 so2 : Int32), r = nI j ∧ G1 = (gs G V (mO V th hi ac tp ba (nI n) (nI (p2)) (fa2) (dp2) io hm_ (we2) (sh2) (so2))) ∧ fa2 = (uEnd n (uText y n ((skp y n 0, -1), clrX X0, ww, wn, dp0))).1.2 ∧ (fa2 = -1 → (uText y n ((skp y n 0, -1), clrX X0, ww, wn, dp0)).2.1.1 = nI j ∧ j ≤ 12 ∧ (∀ T k9, FOK T k9 F io hm_ → we2 = we0 + nI (tlX (uText y n ((skp y n 0, -1), clrX X0, ww, wn, dp0)).2.1 T k9 j 0) ∧ sh2 = sh0 + nI (tlX (uText y n ((skp y n 0, -1), clrX X0, ww, wn, dp0)).2.1 T k9 j 1) ∧ so2 = so0 + nI (tlX (uText y n ((skp y n 0, -1), clrX X0, ww, wn, dp0)).2.1 T k9 j 2)))) := by
  have hp : 0 ≤ n := Nat.zero_le _
  have hs0 := (skp_le (y := y) hp).2
  refine Ct.intro rfl (by decide) [.ref V, .int (nI 1), .float 0, .float 0] (by simp [Value.category]) (Nat.le_of_ble_eq_true rfl) rfl ?_
  refine w_aload_n dX8_read_0 rfl ?_
  refine wV0n dX8_read_1 lk_X8_66 rfl (by first | assumption | exact gs_at | (rw [gs_ne (by omega)]; (first | assumption | exact gs_at | (rw [gs_ne (by omega)]; (first | assumption | exact gs_at | (rw [gs_ne (by omega)]; (first | assumption | exact gs_at | (rw [gs_ne (by omega)]; (first | assumption | exact gs_at))))))))) rfl rfl (m_skip hV hT hn hy hp) (Nat.le_of_ble_eq_true rfl) (Nat.le_of_ble_eq_true rfl) (Nat.le_of_ble_eq_true rfl) (Nat.le_of_ble_eq_true rfl) ?_
  refine w_aload_n dX8_read_4 rfl ?_
  refine w_getf dX8_read_5 fl_X8_56 (by first | assumption | exact gs_at | (rw [gs_ne (by omega)]; (first | assumption | exact gs_at | (rw [gs_ne (by omega)]; (first | assumption | exact gs_at | (rw [gs_ne (by omega)]; (first | assumption | exact gs_at | (rw [gs_ne (by omega)]; (first | assumption | exact gs_at))))))))) rfl ?_
  refine w_aload_n dX8_read_8 rfl ?_
  refine w_getf dX8_read_9 fl_X8_59 (by first | assumption | exact gs_at | (rw [gs_ne (by omega)]; (first | assumption | exact gs_at | (rw [gs_ne (by omega)]; (first | assumption | exact gs_at | (rw [gs_ne (by omega)]; (first | assumption | exact gs_at | (rw [gs_ne (by omega)]; (first | assumption | exact gs_at))))))))) rfl ?_
  refine w_icmp_ge (tgt := 19) dX8_read_12 (by decide) (fun c_12 => ?_) (fun c_12 => ?_)
  · try simp (disch := omega) only [nI_b2, Decidable.not_not, nI_ltI, nI_leI, nI_eq, ge_iff_le, gt_iff_lt, ne_eq, Nat.not_lt, Nat.not_le] at c_12
    refine w_iconst (v := nI 0) dX8_read_19 (by decide) ?_
    refine w_istore_2 dX8_read_20 rfl ?_
    refine w_iconst (v := nI 0) dX8_read_21 (by decide) ?_
    refine w_istore_3 dX8_read_22 rfl ?_
    have e : uText y n ((skp y n 0, -1), clrX X0, ww, wn, dp0) = ((skp y n 0, -1), clrX X0, ww, wn, dp0) := by unfold uText; rw [if_pos (show n ≤ skp y n 0 by omega)]
    rw [e]
    exact ml_rdX0 ⟨_, rfl, 0, skp y n 0, _, -1, _, _, _, rfl, rfl, by rw [uEnd_at (show n ≤ skp y n 0 by omega)], fun _ => ⟨rfl, by decide, fun T k9 _ => ⟨(Int32.add_zero _).symm, (Int32.add_zero _).symm, (Int32.add_zero _).symm⟩⟩⟩
  · try simp (disch := omega) only [nI_b2, Decidable.not_not, nI_ltI, nI_leI, nI_eq, ge_iff_le, gt_iff_lt, ne_eq, Nat.not_lt, Nat.not_le] at c_12
    refine w_iconst (v := nI 1) dX8_read_15 (by decide) ?_
    refine w_goto (tgt := 20) dX8_read_16 (by decide) ?_
    refine w_istore_2 dX8_read_20 rfl ?_
    refine w_iconst (v := nI 0) dX8_read_21 (by decide) ?_
    refine w_istore_3 dX8_read_22 rfl ?_
    have e : uText y n ((skp y n 0, -1), clrX X0, ww, wn, dp0) = uGo y n 13 0 ((skp y n 0, -1), clrX X0, ww, wn, dp0) := by unfold uText; rw [if_neg (show ¬ n ≤ skp y n 0 by omega)]
    rw [e]
    exact ml_rdL hT hn hy hF (fun j p2 dp2 fa2 we2 sh2 so2 h1 h2 => ⟨_, rfl, j, p2, dp2, fa2, we2, sh2, so2, rfl, rfl, h1, h2⟩) 13 0 (skp y n 0) ((skp y n 0, -1), clrX X0, ww, wn, dp0) we0 sh0 so0 rfl (by decide) hs0 (by rw [skp_skp hn]) ⟨hs0, rfl, Nat.zero_le _, fun j hj => absurd hj (Nat.not_lt_zero _)⟩ (fun q hq => absurd hq (by omega)) (Nat.zero_le _) (fun T k9 _ => ⟨(Int32.add_zero _).symm, (Int32.add_zero _).symm, (Int32.add_zero _).symm⟩) rfl
theorem tlN_X {D : LD} (hD : WFD D) (T : ST) (k : Nat) : ∀ i, i ≤ D.2.1 → ∀ j, j < 3 → tlX (toX D) T k i j = tlN D T k i j
  | 0, _, _, _ => rfl
  | i + 1, hi, j, hj => by
    obtain ⟨-, -, h3, h4, h5, h6, -⟩ := id hD
    have a3 := h3 i (by omega); have a4 := h4 i (by omega); have a5 := h5 i (by omega); have a6 := h6 i (by omega)
    have e1 : nOf ((toX D).2.2.2.1 i) = D.2.2.2.2.1 i := nOf_nI (by omega)
    have e2 : nOf ((toX D).2.2.2.1 (i + 1)) = D.2.2.2.2.1 (i + 1) := nOf_nI (by omega)
    have e3 : nOf ((toX D).2.2.1 i) = D.2.2.2.1 i := nOf_nI (by omega)
    have e4 : ((toX D).2.1 i = nI j) ↔ D.2.2.1 i = j := nI_eq (by omega) (by omega)
    rw [tlX, tlN, tlN_X hD T k i (by omega) j hj, e1, e2, e3]
    congr 1
    by_cases h : hBn T k D.2.2.2.2.2.1 (D.2.2.2.2.1 i) (D.2.2.2.2.1 (i + 1)) = 1 ∧ D.2.2.1 i = j
    · rw [if_pos h]; exact if_pos ⟨h.1, e4.mpr h.2⟩
    · rw [if_neg h]; exact if_neg (fun h9 => h ⟨h9.1, e4.mp h9.2⟩)
theorem ml_asks162 {E : EV} {Q : OC → AH → Prop} {V : Nat} {th hi ac tp ba en at_ fa dp io hm_ we sh so : Int32} {mm : Nat → Int32} {T : ST} {sd : Int32} {G : AH} (hV : G.1 V = some (mO V th hi ac tp ba en at_ fa dp io hm_ we sh so)) (hm : G.1 (V + 1) = some (aI 750 mm)) (hR : MoR mm T sd) (hB : Bd T) {k : Nat} {D : LD} {F : Nat → Int32} (hD : WFD D) (hlw : LwR mm D) (hne : ¬ D.2.1 = 0) (hk : k < T 12 0) (hFO : FOK T k F io hm_) (hQ : ∀ (ba2 en2 at2 dp2 : Int32), Q (.inl none) (gs (gs G (V + 6) (aI 7 F)) V (mO V th hi ac tp (ba2) (en2) (at2) fa (dp2) (io) (hm_) (nI (tlN D T k D.2.1 0)) (nI (tlN D T k D.2.1 1)) (nI (tlN D T k D.2.1 2))))) {z z2 : Value} : Wp E 56 0 0 kX8_asks Q (gs (gs G (V + 6) (aI 7 F)) V (mO V th hi ac tp ba en at_ fa dp io hm_ (nI 0) (nI 0) (nI 0))) (0, 0) 162 [.ref V, .int (nI k), z, z2] [] := by
  obtain ⟨hD1, hD2⟩ := id hD
  have hl2 : D.1 = nI D.2.1 := by rcases hD1 with h | h; exact absurd h.2 hne; exact h
  have hl3 : ¬ D.1 = -1 := by rw [hl2]; exact nI_nm1 (by have := hD2.1; omega)
  obtain ⟨hl0, h9⟩ := hlw
  obtain ⟨y, n, X0, ww, wn, dp0, hn, hy, e2, hcs, hok, hDX⟩ : ∃ (y : Nat → Nat) (n : Nat) (X : LX) (ww : Nat → Int32) (wn : Nat) (dp : Int32), n ≤ 400 ∧ (∀ i, y i < 256) ∧ mm 2 = nI n ∧ (∀ i, i < n → mm (350 + i) = nI (y i)) ∧ (lawU y n X ww wn dp).1.2 = -1 ∧ toX D = (lawU y n X ww wn dp).2.1 := by
    rcases h9 with h | h
    · exact absurd h.1 hl3
    · exact h
  have hDX2 : toX D = (uText y n ((skp y n 0, -1), clrX X0, ww, wn, dp0)).2.1 := hDX.trans (congrArg (fun q : LX × (Nat → Int32) × Nat × Int32 => q.1) uEnd_X)
  refine w_aload_n dX8_asks_162 rfl ?_
  refine w_getf dX8_asks_163 fl_X8_25 (by first | assumption | exact gs_at | (rw [gs_ne (by omega)]; (first | assumption | exact gs_at | (rw [gs_ne (by omega)]; (first | assumption | exact gs_at | (rw [gs_ne (by omega)]; (first | assumption | exact gs_at | (rw [gs_ne (by omega)]; (first | assumption | exact gs_at))))))))) rfl ?_
  refine w_istore_2 dX8_asks_166 rfl ?_
  refine w_aload_n dX8_asks_167 rfl ?_
  refine w_iconst (v := (-1)) dX8_asks_168 (by decide) ?_
  refine w_putf dX8_asks_169 fl_X8_25 (by first | assumption | exact gs_at | (rw [gs_ne (by omega)]; (first | assumption | exact gs_at | (rw [gs_ne (by omega)]; (first | assumption | exact gs_at | (rw [gs_ne (by omega)]; (first | assumption | exact gs_at | (rw [gs_ne (by omega)]; (first | assumption | exact gs_at))))))))) (by simp) rfl rfl ?_
  refine w_aload_n dX8_asks_172 rfl ?_
  refine w_sipush (v := nI 350) dX8_asks_173 (by decide) ?_
  refine w_putf dX8_asks_176 fl_X8_53 (by first | assumption | exact gs_at | (rw [gs_ne (by omega)]; (first | assumption | exact gs_at | (rw [gs_ne (by omega)]; (first | assumption | exact gs_at | (rw [gs_ne (by omega)]; (first | assumption | exact gs_at | (rw [gs_ne (by omega)]; (first | assumption | exact gs_at))))))))) (by simp) rfl rfl ?_
  refine w_aload_n dX8_asks_179 rfl ?_
  refine w_aload_n dX8_asks_180 rfl ?_
  refine w_getf dX8_asks_181 fl_X8_7 (by first | assumption | exact gs_at | (rw [gs_ne (by omega)]; (first | assumption | exact gs_at | (rw [gs_ne (by omega)]; (first | assumption | exact gs_at | (rw [gs_ne (by omega)]; (first | assumption | exact gs_at | (rw [gs_ne (by omega)]; (first | assumption | exact gs_at))))))))) rfl ?_
  refine w_iconst (v := nI 2) dX8_asks_184 (by decide) ?_
  refine w_iaload dX8_asks_185 (by first | assumption | exact gs_at | (rw [gs_ne (by omega)]; (first | assumption | exact gs_at | (rw [gs_ne (by omega)]; (first | assumption | exact gs_at | (rw [gs_ne (by omega)]; (first | assumption | exact gs_at | (rw [gs_ne (by omega)]; (first | assumption | exact gs_at))))))))) (by first | assumption | exact vp_in_nI (by omega) (by omega) | exact vp_in_nI (by assumption) (by omega)) ?_
  rw [nI_clamp (by omega)]
  rw [e2]
  refine w_putf dX8_asks_186 fl_X8_59 (by first | assumption | exact gs_at | (rw [gs_ne (by omega)]; (first | assumption | exact gs_at | (rw [gs_ne (by omega)]; (first | assumption | exact gs_at | (rw [gs_ne (by omega)]; (first | assumption | exact gs_at | (rw [gs_ne (by omega)]; (first | assumption | exact gs_at))))))))) (by simp) rfl rfl ?_
  refine w_aload_n dX8_asks_189 rfl ?_
  refine w_iconst (v := nI 0) dX8_asks_190 (by decide) ?_
  refine w_putf dX8_asks_191 fl_X8_56 (by first | assumption | exact gs_at | (rw [gs_ne (by omega)]; (first | assumption | exact gs_at | (rw [gs_ne (by omega)]; (first | assumption | exact gs_at | (rw [gs_ne (by omega)]; (first | assumption | exact gs_at | (rw [gs_ne (by omega)]; (first | assumption | exact gs_at))))))))) (by simp) rfl rfl ?_
  refine w_aload_n dX8_asks_194 rfl ?_
  refine w_iconst (v := nI 0) dX8_asks_195 (by decide) ?_
  refine w_putf dX8_asks_196 fl_X8_132 (by first | assumption | exact gs_at | (rw [gs_ne (by omega)]; (first | assumption | exact gs_at | (rw [gs_ne (by omega)]; (first | assumption | exact gs_at | (rw [gs_ne (by omega)]; (first | assumption | exact gs_at | (rw [gs_ne (by omega)]; (first | assumption | exact gs_at))))))))) (by simp) rfl rfl ?_
  rw [gs_gs, gs_gs, gs_gs, gs_gs, gs_gs]
  refine (show Wp E 56 0 0 kX8_asks Q (gs (gs G (V + 6) (aI 7 F)) V (mO V th hi ac tp (nI 350) (nI n) (nI 0) (-1) (nI 0) io hm_ (nI 0) (nI 0) (nI 0))) (0, 0) 199 [.ref V, .int (nI k), .int fa, z2] [] from ?_)
  refine w_aload_n dX8_asks_199 rfl ?_
  refine w_iconst (v := nI 1) dX8_asks_200 (by decide) ?_
  refine wV1i dX8_asks_201 lk_X8_151 rfl (by first | assumption | exact gs_at | (rw [gs_ne (by omega)]; (first | assumption | exact gs_at | (rw [gs_ne (by omega)]; (first | assumption | exact gs_at | (rw [gs_ne (by omega)]; (first | assumption | exact gs_at | (rw [gs_ne (by omega)]; (first | assumption | exact gs_at))))))))) rfl rfl (m_readL (y := y) (n := n) (F := F) (X0 := X0) (ww := ww) (wn := wn) (dp0 := dp0) gs_at (Or.inr ⟨rfl, mm, (gs_ne (by omega)).trans ((gs_ne (by omega)).trans hm), hcs⟩) hn hy ((gs_ne (by omega)).trans gs_at)) (Nat.le_of_ble_eq_true rfl) (Nat.le_of_ble_eq_true rfl) (Nat.le_of_ble_eq_true rfl) (Nat.le_of_ble_eq_true rfl) (fun r_201 G_201 h_201 => ?_)
  obtain ⟨j, p2, dp2, fa2, we2, sh2, so2, rfl, hG2, hf2, hv⟩ := h_201
  rw [gs_gs] at hG2
  subst hG2
  have hf3 : fa2 = -1 := hf2.trans hok
  obtain ⟨hj1, hj2, hj3⟩ := hv hf3
  obtain ⟨w1, w2, w3⟩ := hj3 T k hFO
  rw [← hDX2] at hj1 w1 w2 w3
  have hj4 : D.2.1 = j := by have h9 : D.1 = nI j := hj1; rw [hl2] at h9; exact (nI_eq (by have := hD2.1; omega) (by omega)).mp h9
  subst hj4
  rw [tlN_X hD T k _ (Nat.le_refl _) _ (by decide), nI_add, Nat.zero_add] at w1 w2 w3
  subst w1; subst w2; subst w3
  refine w_istore_3 dX8_asks_204 rfl ?_
  refine w_aload_n dX8_asks_205 rfl ?_
  refine w_iload_n dX8_asks_206 rfl ?_
  refine w_putf dX8_asks_207 fl_X8_25 (by first | assumption | exact gs_at | (rw [gs_ne (by omega)]; (first | assumption | exact gs_at | (rw [gs_ne (by omega)]; (first | assumption | exact gs_at | (rw [gs_ne (by omega)]; (first | assumption | exact gs_at | (rw [gs_ne (by omega)]; (first | assumption | exact gs_at))))))))) (by simp) rfl rfl ?_
  refine w_vret dX8_asks_210 rfl (Nat.le_of_ble_eq_true rfl) (Nat.le_of_ble_eq_true rfl) ?_
  rw [gs_gs]
  exact hQ _ _ _ _
theorem ml_asks162X {E : EV} {Q : OC → AH → Prop} {V : Nat} {th hi ac tp ba en at_ fa dp io hm_ we sh so : Int32} {mm : Nat → Int32} {T : ST} {sd : Int32} {G : AH} (hV : G.1 V = some (mO V th hi ac tp ba en at_ fa dp io hm_ we sh so)) (hm : G.1 (V + 1) = some (aI 750 mm)) (hR : MoR mm T sd) (hB : Bd T) {k : Nat} {D : LD} {F : Nat → Int32} (hD : WFD D) (hlw : LwR mm D) (hne : ¬ D.2.1 = 0) (hk : k < T 12 0) (hF7 : F 0 = nI k ∧ F 1 = nI (T 1 k) ∧ F 2 = nI (T 2 k) ∧ F 3 = nI (T 3 k) ∧ F 4 = nI (thereN T) ∧ F 5 = nI (T 12 3 % 182) ∧ F 6 = nI (T 7 (T 1 k))) (hQ : ∀ (ba2 en2 at2 dp2 : Int32), Q (.inl none) (gs (gs G (V + 6) (aI 7 F)) V (mO V th hi ac tp (ba2) (en2) (at2) fa (dp2) (nI (b2 (T 4 k = thereN T))) (nI (b2 (T 1 k = T 0 k))) (nI (tlN D T k D.2.1 0)) (nI (tlN D T k D.2.1 1)) (nI (tlN D T k D.2.1 2))))) {z z2 : Value} : Wp E 56 0 0 kX8_asks Q (gs (gs G (V + 6) (aI 7 F)) V (mO V th hi ac tp ba en at_ fa dp (nI (b2 (T 4 k = thereN T))) (nI (b2 (T 1 k = T 0 k))) (nI 0) (nI 0) (nI 0))) (0, 0) 162 [.ref V, .int (nI k), z, z2] [] := by
  obtain ⟨q0, q1, q2, q3, q4, q5, q6⟩ := hF7
  have hV9 : (gs G V (mO V th hi ac tp ba en at_ fa dp (nI (b2 (T 4 k = thereN T))) (nI (b2 (T 1 k = T 0 k))) (nI 0) (nI 0) (nI 0))).1 V = some (mO V th hi ac tp ba en at_ fa dp (nI (b2 (T 4 k = thereN T))) (nI (b2 (T 1 k = T 0 k))) (nI 0) (nI 0) (nI 0)) := gs_at
  have h := ml_asks162 (E := E) (Q := Q) (G := gs G V (mO V th hi ac tp ba en at_ fa dp (nI (b2 (T 4 k = thereN T))) (nI (b2 (T 1 k = T 0 k))) (nI 0) (nI 0) (nI 0))) (F := F) hV9 ((gs_ne (by omega)).trans hm) hR hB hD hlw hne hk ⟨q0, q1, q2, q3, q4, q5, q6, rfl, rfl, by have := hB.1; omega, hB⟩ (fun a b c d => by rw [gs_comm (a := V) (b := V + 6) (by omega), gs_gs]; exact hQ a b c d) (z := z) (z2 := z2)
  rw [gs_comm (a := V) (b := V + 6) (by omega), gs_gs] at h
  exact h
theorem ml_asks138 {E : EV} {Q : OC → AH → Prop} {V : Nat} {th hi ac tp ba en at_ fa dp io hm_ we sh so : Int32} {mm : Nat → Int32} {T : ST} {sd : Int32} {G : AH} (hV : G.1 V = some (mO V th hi ac tp ba en at_ fa dp io hm_ we sh so)) (hm : G.1 (V + 1) = some (aI 750 mm)) (hR : MoR mm T sd) (hB : Bd T) {k : Nat} {D : LD} {F : Nat → Int32} (hD : WFD D) (hlw : LwR mm D) (hne : ¬ D.2.1 = 0) (hk : k < T 12 0) (hF7 : F 0 = nI k ∧ F 1 = nI (T 1 k) ∧ F 2 = nI (T 2 k) ∧ F 3 = nI (T 3 k) ∧ F 4 = nI (thereN T) ∧ F 5 = nI (T 12 3 % 182) ∧ F 6 = nI (T 7 (T 1 k))) (hQ : ∀ (ba2 en2 at2 dp2 : Int32), Q (.inl none) (gs (gs G (V + 6) (aI 7 F)) V (mO V th hi ac tp (ba2) (en2) (at2) fa (dp2) (nI (b2 (T 4 k = thereN T))) (nI (b2 (T 1 k = T 0 k))) (nI (tlN D T k D.2.1 0)) (nI (tlN D T k D.2.1 1)) (nI (tlN D T k D.2.1 2))))) {z z2 : Value} : Wp E 56 0 0 kX8_asks Q (gs (gs G (V + 6) (aI 7 F)) V (mO V th hi ac tp ba en at_ fa dp (nI (b2 (T 4 k = thereN T))) hm_ (nI 0) (nI 0) (nI 0))) (0, 0) 138 [.ref V, .int (nI k), z, z2] [] := by
  have hVs : (gs (gs G (V + 6) (aI 7 F)) V (mO V th hi ac tp ba en at_ fa dp (nI (b2 (T 4 k = thereN T))) hm_ (nI 0) (nI 0) (nI 0))).1 V = some (mO V th hi ac tp ba en at_ fa dp (nI (b2 (T 4 k = thereN T))) hm_ (nI 0) (nI 0) (nI 0)) := gs_at
  have hms : (gs (gs G (V + 6) (aI 7 F)) V (mO V th hi ac tp ba en at_ fa dp (nI (b2 (T 4 k = thereN T))) hm_ (nI 0) (nI 0) (nI 0))).1 (V + 1) = some (aI 750 mm) := (gs_ne (by omega)).trans ((gs_ne (by omega)).trans hm)
  have hk12 : k < 12 := by have := hB.1; omega
  have b1_ := hB.2.1 k; have b2_ := hB.2.2.1 k
  have hgo : ∀ c, c = b2 (T 1 k = T 0 k) → Wp E 56 0 0 kX8_asks Q (gs (gs (gs G (V + 6) (aI 7 F)) V (mO V th hi ac tp ba en at_ fa dp (nI (b2 (T 4 k = thereN T))) hm_ (nI 0) (nI 0) (nI 0))) V (mO V th hi ac tp ba en at_ fa dp (nI (b2 (T 4 k = thereN T))) (nI c) (nI 0) (nI 0) (nI 0))) (0, 0) 162 [.ref V, .int (nI k), z, z2] [] := by
    intro c hc
    subst hc
    rw [gs_gs]
    exact ml_asks162X hV hm hR hB hD hlw hne hk hF7 hQ
  refine w_aload_n dX8_asks_138 rfl ?_
  refine w_aload_n dX8_asks_139 rfl ?_
  refine w_iload_n dX8_asks_140 rfl ?_
  refine w_iconst (v := nI 1) dX8_asks_141 (by decide) ?_
  refine wV2u dX8_asks_142 lk_X8_46 rfl (by first | assumption | exact gs_at | (rw [gs_ne (by omega)]; (first | assumption | exact gs_at | (rw [gs_ne (by omega)]; (first | assumption | exact gs_at | (rw [gs_ne (by omega)]; (first | assumption | exact gs_at | (rw [gs_ne (by omega)]; (first | assumption | exact gs_at))))))))) rfl rfl (m_of (w := 1) hVs hms hR hB hk12 (by decide)) (Nat.le_of_ble_eq_true rfl) (Nat.le_of_ble_eq_true rfl) (Nat.le_of_ble_eq_true rfl) (Nat.le_of_ble_eq_true rfl) ?_
  refine w_aload_n dX8_asks_145 rfl ?_
  refine w_iload_n dX8_asks_146 rfl ?_
  refine w_iconst (v := nI 0) dX8_asks_147 (by decide) ?_
  refine wV2u dX8_asks_148 lk_X8_46 rfl (by first | assumption | exact gs_at | (rw [gs_ne (by omega)]; (first | assumption | exact gs_at | (rw [gs_ne (by omega)]; (first | assumption | exact gs_at | (rw [gs_ne (by omega)]; (first | assumption | exact gs_at | (rw [gs_ne (by omega)]; (first | assumption | exact gs_at))))))))) rfl rfl (m_of (w := 0) hVs hms hR hB hk12 (by decide)) (Nat.le_of_ble_eq_true rfl) (Nat.le_of_ble_eq_true rfl) (Nat.le_of_ble_eq_true rfl) (Nat.le_of_ble_eq_true rfl) ?_
  refine w_icmp_ne (tgt := 158) dX8_asks_151 (by decide) (fun c_151 => ?_) (fun c_151 => ?_)
  · try simp (disch := omega) only [nI_b2, Decidable.not_not, nI_ltI, nI_leI, nI_eq, ge_iff_le, gt_iff_lt, ne_eq, Nat.not_lt, Nat.not_le] at c_151
    refine w_iconst (v := nI 0) dX8_asks_158 (by decide) ?_
    refine w_putf dX8_asks_159 fl_X8_176 (by first | assumption | exact gs_at | (rw [gs_ne (by omega)]; (first | assumption | exact gs_at | (rw [gs_ne (by omega)]; (first | assumption | exact gs_at | (rw [gs_ne (by omega)]; (first | assumption | exact gs_at | (rw [gs_ne (by omega)]; (first | assumption | exact gs_at))))))))) (by simp) rfl rfl ?_
    first
      | (refine (show Wp E 56 0 0 kX8_asks Q (gs (gs (gs G (V + 6) (aI 7 F)) V (mO V th hi ac tp ba en at_ fa dp (nI (b2 (T 4 k = thereN T))) hm_ (nI 0) (nI 0) (nI 0))) V (mO V th hi ac tp ba en at_ fa dp (nI (b2 (T 4 k = thereN T))) (nI 1) (nI 0) (nI 0) (nI 0))) (0, 0) 162 [.ref V, .int (nI k), z, z2] [] from hgo 1 ?_); rw [b2, if_pos c_151])
      | (refine (show Wp E 56 0 0 kX8_asks Q (gs (gs (gs G (V + 6) (aI 7 F)) V (mO V th hi ac tp ba en at_ fa dp (nI (b2 (T 4 k = thereN T))) hm_ (nI 0) (nI 0) (nI 0))) V (mO V th hi ac tp ba en at_ fa dp (nI (b2 (T 4 k = thereN T))) (nI 0) (nI 0) (nI 0) (nI 0))) (0, 0) 162 [.ref V, .int (nI k), z, z2] [] from hgo 0 ?_); rw [b2, if_neg c_151])
  · try simp (disch := omega) only [nI_b2, Decidable.not_not, nI_ltI, nI_leI, nI_eq, ge_iff_le, gt_iff_lt, ne_eq, Nat.not_lt, Nat.not_le] at c_151
    refine w_iconst (v := nI 1) dX8_asks_154 (by decide) ?_
    refine w_goto (tgt := 159) dX8_asks_155 (by decide) ?_
    refine w_putf dX8_asks_159 fl_X8_176 (by first | assumption | exact gs_at | (rw [gs_ne (by omega)]; (first | assumption | exact gs_at | (rw [gs_ne (by omega)]; (first | assumption | exact gs_at | (rw [gs_ne (by omega)]; (first | assumption | exact gs_at | (rw [gs_ne (by omega)]; (first | assumption | exact gs_at))))))))) (by simp) rfl rfl ?_
    first
      | (refine (show Wp E 56 0 0 kX8_asks Q (gs (gs (gs G (V + 6) (aI 7 F)) V (mO V th hi ac tp ba en at_ fa dp (nI (b2 (T 4 k = thereN T))) hm_ (nI 0) (nI 0) (nI 0))) V (mO V th hi ac tp ba en at_ fa dp (nI (b2 (T 4 k = thereN T))) (nI 1) (nI 0) (nI 0) (nI 0))) (0, 0) 162 [.ref V, .int (nI k), z, z2] [] from hgo 1 ?_); rw [b2, if_pos c_151])
      | (refine (show Wp E 56 0 0 kX8_asks Q (gs (gs (gs G (V + 6) (aI 7 F)) V (mO V th hi ac tp ba en at_ fa dp (nI (b2 (T 4 k = thereN T))) hm_ (nI 0) (nI 0) (nI 0))) V (mO V th hi ac tp ba en at_ fa dp (nI (b2 (T 4 k = thereN T))) (nI 0) (nI 0) (nI 0) (nI 0))) (0, 0) 162 [.ref V, .int (nI k), z, z2] [] from hgo 0 ?_); rw [b2, if_neg c_151])
theorem ml_asks116 {E : EV} {Q : OC → AH → Prop} {V : Nat} {th hi ac tp ba en at_ fa dp io hm_ we sh so : Int32} {mm : Nat → Int32} {T : ST} {sd : Int32} {G : AH} (hV : G.1 V = some (mO V th hi ac tp ba en at_ fa dp io hm_ we sh so)) (hm : G.1 (V + 1) = some (aI 750 mm)) (hR : MoR mm T sd) (hB : Bd T) {k : Nat} {D : LD} {F : Nat → Int32} (hD : WFD D) (hlw : LwR mm D) (hne : ¬ D.2.1 = 0) (hk : k < T 12 0) (hF7 : F 0 = nI k ∧ F 1 = nI (T 1 k) ∧ F 2 = nI (T 2 k) ∧ F 3 = nI (T 3 k) ∧ F 4 = nI (thereN T) ∧ F 5 = nI (T 12 3 % 182) ∧ F 6 = nI (T 7 (T 1 k))) (hQ : ∀ (ba2 en2 at2 dp2 : Int32), Q (.inl none) (gs (gs G (V + 6) (aI 7 F)) V (mO V th hi ac tp (ba2) (en2) (at2) fa (dp2) (nI (b2 (T 4 k = thereN T))) (nI (b2 (T 1 k = T 0 k))) (nI (tlN D T k D.2.1 0)) (nI (tlN D T k D.2.1 1)) (nI (tlN D T k D.2.1 2))))) {z z2 : Value} : Wp E 56 0 0 kX8_asks Q (gs (gs G (V + 6) (aI 7 F)) V (mO V th hi ac tp ba en at_ fa dp io hm_ (nI 0) (nI 0) (nI 0))) (0, 0) 116 [.ref V, .int (nI k), z, z2] [] := by
  have hVs : (gs (gs G (V + 6) (aI 7 F)) V (mO V th hi ac tp ba en at_ fa dp io hm_ (nI 0) (nI 0) (nI 0))).1 V = some (mO V th hi ac tp ba en at_ fa dp io hm_ (nI 0) (nI 0) (nI 0)) := gs_at
  have hms : (gs (gs G (V + 6) (aI 7 F)) V (mO V th hi ac tp ba en at_ fa dp io hm_ (nI 0) (nI 0) (nI 0))).1 (V + 1) = some (aI 750 mm) := (gs_ne (by omega)).trans ((gs_ne (by omega)).trans hm)
  have hk12 : k < 12 := by have := hB.1; omega
  have b5_ := hB.2.2.2.2.2.1 k; have b0_ := thereN_le T
  have hgo : ∀ c, c = b2 (T 4 k = thereN T) → Wp E 56 0 0 kX8_asks Q (gs (gs (gs G (V + 6) (aI 7 F)) V (mO V th hi ac tp ba en at_ fa dp io hm_ (nI 0) (nI 0) (nI 0))) V (mO V th hi ac tp ba en at_ fa dp (nI c) hm_ (nI 0) (nI 0) (nI 0))) (0, 0) 138 [.ref V, .int (nI k), z, z2] [] := by
    intro c hc
    subst hc
    rw [gs_gs]
    exact ml_asks138 hV hm hR hB hD hlw hne hk hF7 hQ
  refine w_aload_n dX8_asks_116 rfl ?_
  refine w_aload_n dX8_asks_117 rfl ?_
  refine w_iload_n dX8_asks_118 rfl ?_
  refine w_iconst (v := nI 4) dX8_asks_119 (by decide) ?_
  refine wV2u dX8_asks_120 lk_X8_46 rfl (by first | assumption | exact gs_at | (rw [gs_ne (by omega)]; (first | assumption | exact gs_at | (rw [gs_ne (by omega)]; (first | assumption | exact gs_at | (rw [gs_ne (by omega)]; (first | assumption | exact gs_at | (rw [gs_ne (by omega)]; (first | assumption | exact gs_at))))))))) rfl rfl (m_of (w := 4) hVs hms hR hB hk12 (by decide)) (Nat.le_of_ble_eq_true rfl) (Nat.le_of_ble_eq_true rfl) (Nat.le_of_ble_eq_true rfl) (Nat.le_of_ble_eq_true rfl) ?_
  refine w_aload_n dX8_asks_123 rfl ?_
  refine wV0u dX8_asks_124 lk_X8_216 rfl (by first | assumption | exact gs_at | (rw [gs_ne (by omega)]; (first | assumption | exact gs_at | (rw [gs_ne (by omega)]; (first | assumption | exact gs_at | (rw [gs_ne (by omega)]; (first | assumption | exact gs_at | (rw [gs_ne (by omega)]; (first | assumption | exact gs_at))))))))) rfl rfl (m_there hVs hms hR hB) (Nat.le_of_ble_eq_true rfl) (Nat.le_of_ble_eq_true rfl) (Nat.le_of_ble_eq_true rfl) (Nat.le_of_ble_eq_true rfl) ?_
  refine w_icmp_ne (tgt := 134) dX8_asks_127 (by decide) (fun c_127 => ?_) (fun c_127 => ?_)
  · try simp (disch := omega) only [nI_b2, Decidable.not_not, nI_ltI, nI_leI, nI_eq, ge_iff_le, gt_iff_lt, ne_eq, Nat.not_lt, Nat.not_le] at c_127
    refine w_iconst (v := nI 0) dX8_asks_134 (by decide) ?_
    refine w_putf dX8_asks_135 fl_X8_172 (by first | assumption | exact gs_at | (rw [gs_ne (by omega)]; (first | assumption | exact gs_at | (rw [gs_ne (by omega)]; (first | assumption | exact gs_at | (rw [gs_ne (by omega)]; (first | assumption | exact gs_at | (rw [gs_ne (by omega)]; (first | assumption | exact gs_at))))))))) (by simp) rfl rfl ?_
    first
      | (refine (show Wp E 56 0 0 kX8_asks Q (gs (gs (gs G (V + 6) (aI 7 F)) V (mO V th hi ac tp ba en at_ fa dp io hm_ (nI 0) (nI 0) (nI 0))) V (mO V th hi ac tp ba en at_ fa dp (nI 1) hm_ (nI 0) (nI 0) (nI 0))) (0, 0) 138 [.ref V, .int (nI k), z, z2] [] from hgo 1 ?_); rw [b2, if_pos c_127])
      | (refine (show Wp E 56 0 0 kX8_asks Q (gs (gs (gs G (V + 6) (aI 7 F)) V (mO V th hi ac tp ba en at_ fa dp io hm_ (nI 0) (nI 0) (nI 0))) V (mO V th hi ac tp ba en at_ fa dp (nI 0) hm_ (nI 0) (nI 0) (nI 0))) (0, 0) 138 [.ref V, .int (nI k), z, z2] [] from hgo 0 ?_); rw [b2, if_neg c_127])
  · try simp (disch := omega) only [nI_b2, Decidable.not_not, nI_ltI, nI_leI, nI_eq, ge_iff_le, gt_iff_lt, ne_eq, Nat.not_lt, Nat.not_le] at c_127
    refine w_iconst (v := nI 1) dX8_asks_130 (by decide) ?_
    refine w_goto (tgt := 135) dX8_asks_131 (by decide) ?_
    refine w_putf dX8_asks_135 fl_X8_172 (by first | assumption | exact gs_at | (rw [gs_ne (by omega)]; (first | assumption | exact gs_at | (rw [gs_ne (by omega)]; (first | assumption | exact gs_at | (rw [gs_ne (by omega)]; (first | assumption | exact gs_at | (rw [gs_ne (by omega)]; (first | assumption | exact gs_at))))))))) (by simp) rfl rfl ?_
    first
      | (refine (show Wp E 56 0 0 kX8_asks Q (gs (gs (gs G (V + 6) (aI 7 F)) V (mO V th hi ac tp ba en at_ fa dp io hm_ (nI 0) (nI 0) (nI 0))) V (mO V th hi ac tp ba en at_ fa dp (nI 1) hm_ (nI 0) (nI 0) (nI 0))) (0, 0) 138 [.ref V, .int (nI k), z, z2] [] from hgo 1 ?_); rw [b2, if_pos c_127])
      | (refine (show Wp E 56 0 0 kX8_asks Q (gs (gs (gs G (V + 6) (aI 7 F)) V (mO V th hi ac tp ba en at_ fa dp io hm_ (nI 0) (nI 0) (nI 0))) V (mO V th hi ac tp ba en at_ fa dp (nI 0) hm_ (nI 0) (nI 0) (nI 0))) (0, 0) 138 [.ref V, .int (nI k), z, z2] [] from hgo 0 ?_); rw [b2, if_neg c_127])
theorem ask_ok {E : EV} {D : LD} (hD : WFD D) : AskC E D := by
  intro V k th hi ac tp ba en at_ fa dp io hm_ we sh so mm T sd G hV hm hR hB hlw h6 hk
  obtain ⟨F0, h6⟩ := h6
  have hk12 : k < 12 := by have := hB.1; omega
  obtain ⟨hD1, hD2⟩ := id hD
  have hDl := hD2.1
  obtain ⟨r0, r3, r4, r5, r6, r7, r9, r11, r12, r14, r20, r26, rL⟩ := id hR
  have b1_ := hB.2.2.1 k
  have hb3 : T 12 3 ≤ 9999 := by obtain ⟨b0, b1, b2_, b3, b4, b5, b6, b7, b8, b9, b10, b11, b12, b13, b14, b15, b16, b17, b18, b19⟩ := id hB; omega
  refine Ct.intro rfl (by decide) [.ref V, .int (nI k), .float 0, .float 0] (by simp [Value.category]) (Nat.le_of_ble_eq_true rfl) rfl ?_
  refine w_aload_n dX8_asks_0 rfl ?_
  refine w_iconst (v := nI 0) dX8_asks_1 (by decide) ?_
  refine w_putf dX8_asks_2 fl_X8_207 (by first | assumption | exact gs_at | (rw [gs_ne (by omega)]; (first | assumption | exact gs_at | (rw [gs_ne (by omega)]; (first | assumption | exact gs_at | (rw [gs_ne (by omega)]; (first | assumption | exact gs_at | (rw [gs_ne (by omega)]; (first | assumption | exact gs_at))))))))) (by simp) rfl rfl ?_
  refine w_aload_n dX8_asks_5 rfl ?_
  refine w_iconst (v := nI 0) dX8_asks_6 (by decide) ?_
  refine w_putf dX8_asks_7 fl_X8_210 (by first | assumption | exact gs_at | (rw [gs_ne (by omega)]; (first | assumption | exact gs_at | (rw [gs_ne (by omega)]; (first | assumption | exact gs_at | (rw [gs_ne (by omega)]; (first | assumption | exact gs_at | (rw [gs_ne (by omega)]; (first | assumption | exact gs_at))))))))) (by simp) rfl rfl ?_
  refine w_aload_n dX8_asks_10 rfl ?_
  refine w_iconst (v := nI 0) dX8_asks_11 (by decide) ?_
  refine w_putf dX8_asks_12 fl_X8_213 (by first | assumption | exact gs_at | (rw [gs_ne (by omega)]; (first | assumption | exact gs_at | (rw [gs_ne (by omega)]; (first | assumption | exact gs_at | (rw [gs_ne (by omega)]; (first | assumption | exact gs_at | (rw [gs_ne (by omega)]; (first | assumption | exact gs_at))))))))) (by simp) rfl rfl ?_
  refine w_aload_n dX8_asks_15 rfl ?_
  refine w_getf dX8_asks_16 fl_X8_7 (by first | assumption | exact gs_at | (rw [gs_ne (by omega)]; (first | assumption | exact gs_at | (rw [gs_ne (by omega)]; (first | assumption | exact gs_at | (rw [gs_ne (by omega)]; (first | assumption | exact gs_at | (rw [gs_ne (by omega)]; (first | assumption | exact gs_at))))))))) rfl ?_
  refine w_iconst (v := nI 1) dX8_asks_19 (by decide) ?_
  refine w_iaload dX8_asks_20 (by first | assumption | exact gs_at | (rw [gs_ne (by omega)]; (first | assumption | exact gs_at | (rw [gs_ne (by omega)]; (first | assumption | exact gs_at | (rw [gs_ne (by omega)]; (first | assumption | exact gs_at | (rw [gs_ne (by omega)]; (first | assumption | exact gs_at))))))))) (by first | assumption | exact vp_in_nI (by omega) (by omega) | exact vp_in_nI (by assumption) (by omega)) ?_
  rw [nI_clamp (by omega)]
  refine w_iconst (v := nI 1) dX8_asks_21 (by decide) ?_
  refine w_icmp_ge (tgt := 26) dX8_asks_22 (by decide) (fun c_22 => ?_) (fun c_22 => ?_)
  · try simp only [ge_iff_le] at c_22
    rw [gs_gs, gs_gs]
    have hV9 : (gs G V (mO V th hi ac tp ba en at_ fa dp io hm_ (nI 0) (nI 0) (nI 0))).1 V = some (mO V th hi ac tp ba en at_ fa dp io hm_ (nI 0) (nI 0) (nI 0)) := gs_at
    have hm9 : (gs G V (mO V th hi ac tp ba en at_ fa dp io hm_ (nI 0) (nI 0) (nI 0))).1 (V + 1) = some (aI 750 mm) := (gs_ne (by omega)).trans hm
    have h69 : (gs G V (mO V th hi ac tp ba en at_ fa dp io hm_ (nI 0) (nI 0) (nI 0))).1 (V + 6) = some (aI 7 F0) := (gs_ne (by omega)).trans h6
    have hne : ¬ D.2.1 = 0 := fun h => by have hx := hlw.1; rcases hD1 with h9 | h9; rw [hx, h9.1] at c_22; exact absurd c_22 (by decide); rw [hx, h9, h] at c_22; exact absurd c_22 (by decide)
    refine (show Wp E 56 0 0 kX8_asks _ (gs G V (mO V th hi ac tp ba en at_ fa dp io hm_ (nI 0) (nI 0) (nI 0))) (0, 0) 26 [.ref V, .int (nI k), .float 0, .float 0] [] from ?_)
    refine w_aload_n dX8_asks_26 rfl ?_
    refine w_getf dX8_asks_27 fl_X8_29 (by first | assumption | exact gs_at | (rw [gs_ne (by omega)]; (first | assumption | exact gs_at | (rw [gs_ne (by omega)]; (first | assumption | exact gs_at | (rw [gs_ne (by omega)]; (first | assumption | exact gs_at | (rw [gs_ne (by omega)]; (first | assumption | exact gs_at))))))))) rfl ?_
    refine w_iconst (v := nI 0) dX8_asks_30 (by decide) ?_
    refine w_iload_n dX8_asks_31 rfl ?_
    refine w_iastore dX8_asks_32 (by first | assumption | exact gs_at | (rw [gs_ne (by omega)]; (first | assumption | exact gs_at | (rw [gs_ne (by omega)]; (first | assumption | exact gs_at | (rw [gs_ne (by omega)]; (first | assumption | exact gs_at | (rw [gs_ne (by omega)]; (first | assumption | exact gs_at))))))))) (by first | assumption | exact vp_in_nI (by omega) (by omega) | exact vp_in_nI (by assumption) (by omega)) ?_
    rw [nI_clamp (by omega)]
    have hq1 : (gs (gs G V (mO V th hi ac tp ba en at_ fa dp io hm_ (nI 0) (nI 0) (nI 0))) (V + 6) (aI 7 (upd F0 0 (nI k)))).1 (V + 6) = some (aI 7 (upd F0 0 (nI k))) := gs_at
    refine w_aload_n dX8_asks_33 rfl ?_
    refine w_getf dX8_asks_34 fl_X8_29 (by first | assumption | exact gs_at | (rw [gs_ne (by omega)]; (first | assumption | exact gs_at | (rw [gs_ne (by omega)]; (first | assumption | exact gs_at | (rw [gs_ne (by omega)]; (first | assumption | exact gs_at | (rw [gs_ne (by omega)]; (first | assumption | exact gs_at))))))))) rfl ?_
    refine w_iconst (v := nI 1) dX8_asks_37 (by decide) ?_
    refine w_aload_n dX8_asks_38 rfl ?_
    refine w_iload_n dX8_asks_39 rfl ?_
    refine w_iconst (v := nI 1) dX8_asks_40 (by decide) ?_
    refine wV2u dX8_asks_41 lk_X8_46 rfl (by first | assumption | exact gs_at | (rw [gs_ne (by omega)]; (first | assumption | exact gs_at | (rw [gs_ne (by omega)]; (first | assumption | exact gs_at | (rw [gs_ne (by omega)]; (first | assumption | exact gs_at | (rw [gs_ne (by omega)]; (first | assumption | exact gs_at))))))))) rfl rfl (m_of (w := 1) (mm := mm) (T := T) (sd := sd) (by first | exact hV9 | exact (gs_ne (by omega)).trans hV9) (by first | exact hm9 | exact (gs_ne (by omega)).trans hm9) hR hB hk12 (by decide)) (Nat.le_of_ble_eq_true rfl) (Nat.le_of_ble_eq_true rfl) (Nat.le_of_ble_eq_true rfl) (Nat.le_of_ble_eq_true rfl) ?_
    refine w_iastore dX8_asks_44 (by first | assumption | exact gs_at | (rw [gs_ne (by omega)]; (first | assumption | exact gs_at | (rw [gs_ne (by omega)]; (first | assumption | exact gs_at | (rw [gs_ne (by omega)]; (first | assumption | exact gs_at | (rw [gs_ne (by omega)]; (first | assumption | exact gs_at))))))))) (by first | assumption | exact vp_in_nI (by omega) (by omega) | exact vp_in_nI (by assumption) (by omega)) ?_
    rw [nI_clamp (by omega)]
    rw [gs_gs]
    have hq2 : (gs (gs G V (mO V th hi ac tp ba en at_ fa dp io hm_ (nI 0) (nI 0) (nI 0))) (V + 6) (aI 7 (upd (upd F0 0 (nI k)) 1 (nI (T 1 k))))).1 (V + 6) = some (aI 7 (upd (upd F0 0 (nI k)) 1 (nI (T 1 k)))) := gs_at
    refine w_aload_n dX8_asks_45 rfl ?_
    refine w_getf dX8_asks_46 fl_X8_29 (by first | assumption | exact gs_at | (rw [gs_ne (by omega)]; (first | assumption | exact gs_at | (rw [gs_ne (by omega)]; (first | assumption | exact gs_at | (rw [gs_ne (by omega)]; (first | assumption | exact gs_at | (rw [gs_ne (by omega)]; (first | assumption | exact gs_at))))))))) rfl ?_
    refine w_iconst (v := nI 2) dX8_asks_49 (by decide) ?_
    refine w_aload_n dX8_asks_50 rfl ?_
    refine w_iload_n dX8_asks_51 rfl ?_
    refine w_iconst (v := nI 2) dX8_asks_52 (by decide) ?_
    refine wV2u dX8_asks_53 lk_X8_46 rfl (by first | assumption | exact gs_at | (rw [gs_ne (by omega)]; (first | assumption | exact gs_at | (rw [gs_ne (by omega)]; (first | assumption | exact gs_at | (rw [gs_ne (by omega)]; (first | assumption | exact gs_at | (rw [gs_ne (by omega)]; (first | assumption | exact gs_at))))))))) rfl rfl (m_of (w := 2) (mm := mm) (T := T) (sd := sd) (by first | exact hV9 | exact (gs_ne (by omega)).trans hV9) (by first | exact hm9 | exact (gs_ne (by omega)).trans hm9) hR hB hk12 (by decide)) (Nat.le_of_ble_eq_true rfl) (Nat.le_of_ble_eq_true rfl) (Nat.le_of_ble_eq_true rfl) (Nat.le_of_ble_eq_true rfl) ?_
    refine w_iastore dX8_asks_56 (by first | assumption | exact gs_at | (rw [gs_ne (by omega)]; (first | assumption | exact gs_at | (rw [gs_ne (by omega)]; (first | assumption | exact gs_at | (rw [gs_ne (by omega)]; (first | assumption | exact gs_at | (rw [gs_ne (by omega)]; (first | assumption | exact gs_at))))))))) (by first | assumption | exact vp_in_nI (by omega) (by omega) | exact vp_in_nI (by assumption) (by omega)) ?_
    rw [nI_clamp (by omega)]
    rw [gs_gs]
    have hq3 : (gs (gs G V (mO V th hi ac tp ba en at_ fa dp io hm_ (nI 0) (nI 0) (nI 0))) (V + 6) (aI 7 (upd (upd (upd F0 0 (nI k)) 1 (nI (T 1 k))) 2 (nI (T 2 k))))).1 (V + 6) = some (aI 7 (upd (upd (upd F0 0 (nI k)) 1 (nI (T 1 k))) 2 (nI (T 2 k)))) := gs_at
    refine w_aload_n dX8_asks_57 rfl ?_
    refine w_getf dX8_asks_58 fl_X8_29 (by first | assumption | exact gs_at | (rw [gs_ne (by omega)]; (first | assumption | exact gs_at | (rw [gs_ne (by omega)]; (first | assumption | exact gs_at | (rw [gs_ne (by omega)]; (first | assumption | exact gs_at | (rw [gs_ne (by omega)]; (first | assumption | exact gs_at))))))))) rfl ?_
    refine w_iconst (v := nI 3) dX8_asks_61 (by decide) ?_
    refine w_aload_n dX8_asks_62 rfl ?_
    refine w_iload_n dX8_asks_63 rfl ?_
    refine w_iconst (v := nI 3) dX8_asks_64 (by decide) ?_
    refine wV2u dX8_asks_65 lk_X8_46 rfl (by first | assumption | exact gs_at | (rw [gs_ne (by omega)]; (first | assumption | exact gs_at | (rw [gs_ne (by omega)]; (first | assumption | exact gs_at | (rw [gs_ne (by omega)]; (first | assumption | exact gs_at | (rw [gs_ne (by omega)]; (first | assumption | exact gs_at))))))))) rfl rfl (m_of (w := 3) (mm := mm) (T := T) (sd := sd) (by first | exact hV9 | exact (gs_ne (by omega)).trans hV9) (by first | exact hm9 | exact (gs_ne (by omega)).trans hm9) hR hB hk12 (by decide)) (Nat.le_of_ble_eq_true rfl) (Nat.le_of_ble_eq_true rfl) (Nat.le_of_ble_eq_true rfl) (Nat.le_of_ble_eq_true rfl) ?_
    refine w_iastore dX8_asks_68 (by first | assumption | exact gs_at | (rw [gs_ne (by omega)]; (first | assumption | exact gs_at | (rw [gs_ne (by omega)]; (first | assumption | exact gs_at | (rw [gs_ne (by omega)]; (first | assumption | exact gs_at | (rw [gs_ne (by omega)]; (first | assumption | exact gs_at))))))))) (by first | assumption | exact vp_in_nI (by omega) (by omega) | exact vp_in_nI (by assumption) (by omega)) ?_
    rw [nI_clamp (by omega)]
    rw [gs_gs]
    have hq4 : (gs (gs G V (mO V th hi ac tp ba en at_ fa dp io hm_ (nI 0) (nI 0) (nI 0))) (V + 6) (aI 7 (upd (upd (upd (upd F0 0 (nI k)) 1 (nI (T 1 k))) 2 (nI (T 2 k))) 3 (nI (T 3 k))))).1 (V + 6) = some (aI 7 (upd (upd (upd (upd F0 0 (nI k)) 1 (nI (T 1 k))) 2 (nI (T 2 k))) 3 (nI (T 3 k)))) := gs_at
    refine w_aload_n dX8_asks_69 rfl ?_
    refine w_getf dX8_asks_70 fl_X8_29 (by first | assumption | exact gs_at | (rw [gs_ne (by omega)]; (first | assumption | exact gs_at | (rw [gs_ne (by omega)]; (first | assumption | exact gs_at | (rw [gs_ne (by omega)]; (first | assumption | exact gs_at | (rw [gs_ne (by omega)]; (first | assumption | exact gs_at))))))))) rfl ?_
    refine w_iconst (v := nI 4) dX8_asks_73 (by decide) ?_
    refine w_aload_n dX8_asks_74 rfl ?_
    refine wV0u dX8_asks_75 lk_X8_216 rfl (by first | assumption | exact gs_at | (rw [gs_ne (by omega)]; (first | assumption | exact gs_at | (rw [gs_ne (by omega)]; (first | assumption | exact gs_at | (rw [gs_ne (by omega)]; (first | assumption | exact gs_at | (rw [gs_ne (by omega)]; (first | assumption | exact gs_at))))))))) rfl rfl (m_there (mm := mm) (T := T) (sd := sd) (by first | exact hV9 | exact (gs_ne (by omega)).trans hV9) (by first | exact hm9 | exact (gs_ne (by omega)).trans hm9) hR hB) (Nat.le_of_ble_eq_true rfl) (Nat.le_of_ble_eq_true rfl) (Nat.le_of_ble_eq_true rfl) (Nat.le_of_ble_eq_true rfl) ?_
    refine w_iastore dX8_asks_78 (by first | assumption | exact gs_at | (rw [gs_ne (by omega)]; (first | assumption | exact gs_at | (rw [gs_ne (by omega)]; (first | assumption | exact gs_at | (rw [gs_ne (by omega)]; (first | assumption | exact gs_at | (rw [gs_ne (by omega)]; (first | assumption | exact gs_at))))))))) (by first | assumption | exact vp_in_nI (by omega) (by omega) | exact vp_in_nI (by assumption) (by omega)) ?_
    rw [nI_clamp (by omega)]
    rw [gs_gs]
    have hq5 : (gs (gs G V (mO V th hi ac tp ba en at_ fa dp io hm_ (nI 0) (nI 0) (nI 0))) (V + 6) (aI 7 (upd (upd (upd (upd (upd F0 0 (nI k)) 1 (nI (T 1 k))) 2 (nI (T 2 k))) 3 (nI (T 3 k))) 4 (nI (thereN T))))).1 (V + 6) = some (aI 7 (upd (upd (upd (upd (upd F0 0 (nI k)) 1 (nI (T 1 k))) 2 (nI (T 2 k))) 3 (nI (T 3 k))) 4 (nI (thereN T)))) := gs_at
    refine w_aload_n dX8_asks_79 rfl ?_
    refine w_getf dX8_asks_80 fl_X8_29 (by first | assumption | exact gs_at | (rw [gs_ne (by omega)]; (first | assumption | exact gs_at | (rw [gs_ne (by omega)]; (first | assumption | exact gs_at | (rw [gs_ne (by omega)]; (first | assumption | exact gs_at | (rw [gs_ne (by omega)]; (first | assumption | exact gs_at))))))))) rfl ?_
    refine w_iconst (v := nI 5) dX8_asks_83 (by decide) ?_
    refine w_aload_n dX8_asks_84 rfl ?_
    refine w_getf dX8_asks_85 fl_X8_7 (by first | assumption | exact gs_at | (rw [gs_ne (by omega)]; (first | assumption | exact gs_at | (rw [gs_ne (by omega)]; (first | assumption | exact gs_at | (rw [gs_ne (by omega)]; (first | assumption | exact gs_at | (rw [gs_ne (by omega)]; (first | assumption | exact gs_at))))))))) rfl ?_
    refine w_iconst (v := nI 4) dX8_asks_88 (by decide) ?_
    refine w_iaload dX8_asks_89 (by first | assumption | exact gs_at | (rw [gs_ne (by omega)]; (first | assumption | exact gs_at | (rw [gs_ne (by omega)]; (first | assumption | exact gs_at | (rw [gs_ne (by omega)]; (first | assumption | exact gs_at | (rw [gs_ne (by omega)]; (first | assumption | exact gs_at))))))))) (by first | assumption | exact vp_in_nI (by omega) (by omega) | exact vp_in_nI (by assumption) (by omega)) ?_
    rw [nI_clamp (by omega)]
    rw [r4]
    refine w_sipush (v := nI 182) dX8_asks_90 (by decide) ?_
    first | refine w_iremN (by omega) (by omega) (by omega) dX8_asks_93 ?_ | refine w_irem dX8_asks_93 (by decide) ?_
    refine w_iastore dX8_asks_94 (by first | assumption | exact gs_at | (rw [gs_ne (by omega)]; (first | assumption | exact gs_at | (rw [gs_ne (by omega)]; (first | assumption | exact gs_at | (rw [gs_ne (by omega)]; (first | assumption | exact gs_at | (rw [gs_ne (by omega)]; (first | assumption | exact gs_at))))))))) (by first | assumption | exact vp_in_nI (by omega) (by omega) | exact vp_in_nI (by assumption) (by omega)) ?_
    rw [nI_clamp (by omega)]
    rw [gs_gs]
    have hq6 : (gs (gs G V (mO V th hi ac tp ba en at_ fa dp io hm_ (nI 0) (nI 0) (nI 0))) (V + 6) (aI 7 (upd (upd (upd (upd (upd (upd F0 0 (nI k)) 1 (nI (T 1 k))) 2 (nI (T 2 k))) 3 (nI (T 3 k))) 4 (nI (thereN T))) 5 (nI (T 12 3 % 182))))).1 (V + 6) = some (aI 7 (upd (upd (upd (upd (upd (upd F0 0 (nI k)) 1 (nI (T 1 k))) 2 (nI (T 2 k))) 3 (nI (T 3 k))) 4 (nI (thereN T))) 5 (nI (T 12 3 % 182)))) := gs_at
    refine w_aload_n dX8_asks_95 rfl ?_
    refine w_getf dX8_asks_96 fl_X8_29 (by first | assumption | exact gs_at | (rw [gs_ne (by omega)]; (first | assumption | exact gs_at | (rw [gs_ne (by omega)]; (first | assumption | exact gs_at | (rw [gs_ne (by omega)]; (first | assumption | exact gs_at | (rw [gs_ne (by omega)]; (first | assumption | exact gs_at))))))))) rfl ?_
    refine w_bipush (v := nI 6) dX8_asks_99 (by decide) ?_
    refine w_aload_n dX8_asks_101 rfl ?_
    refine w_getf dX8_asks_102 fl_X8_7 (by first | assumption | exact gs_at | (rw [gs_ne (by omega)]; (first | assumption | exact gs_at | (rw [gs_ne (by omega)]; (first | assumption | exact gs_at | (rw [gs_ne (by omega)]; (first | assumption | exact gs_at | (rw [gs_ne (by omega)]; (first | assumption | exact gs_at))))))))) rfl ?_
    refine w_bipush (v := nI 14) dX8_asks_105 (by decide) ?_
    refine w_aload_n dX8_asks_107 rfl ?_
    refine w_iload_n dX8_asks_108 rfl ?_
    refine w_iconst (v := nI 1) dX8_asks_109 (by decide) ?_
    refine wV2u dX8_asks_110 lk_X8_46 rfl (by first | assumption | exact gs_at | (rw [gs_ne (by omega)]; (first | assumption | exact gs_at | (rw [gs_ne (by omega)]; (first | assumption | exact gs_at | (rw [gs_ne (by omega)]; (first | assumption | exact gs_at | (rw [gs_ne (by omega)]; (first | assumption | exact gs_at))))))))) rfl rfl (m_of (w := 1) (mm := mm) (T := T) (sd := sd) (by first | exact hV9 | exact (gs_ne (by omega)).trans hV9) (by first | exact hm9 | exact (gs_ne (by omega)).trans hm9) hR hB hk12 (by decide)) (Nat.le_of_ble_eq_true rfl) (Nat.le_of_ble_eq_true rfl) (Nat.le_of_ble_eq_true rfl) (Nat.le_of_ble_eq_true rfl) ?_
    first | refine w_iaddN dX8_asks_113 ?_ | refine w_iadd dX8_asks_113 ?_
    refine w_iaload dX8_asks_114 (by first | assumption | exact gs_at | (rw [gs_ne (by omega)]; (first | assumption | exact gs_at | (rw [gs_ne (by omega)]; (first | assumption | exact gs_at | (rw [gs_ne (by omega)]; (first | assumption | exact gs_at | (rw [gs_ne (by omega)]; (first | assumption | exact gs_at))))))))) (by first | assumption | exact vp_in_nI (by omega) (by omega) | exact vp_in_nI (by assumption) (by omega)) ?_
    rw [nI_clamp (by omega)]
    rw [r14 _ b1_]
    refine w_iastore dX8_asks_115 (by first | assumption | exact gs_at | (rw [gs_ne (by omega)]; (first | assumption | exact gs_at | (rw [gs_ne (by omega)]; (first | assumption | exact gs_at | (rw [gs_ne (by omega)]; (first | assumption | exact gs_at | (rw [gs_ne (by omega)]; (first | assumption | exact gs_at))))))))) (by first | assumption | exact vp_in_nI (by omega) (by omega) | exact vp_in_nI (by assumption) (by omega)) ?_
    rw [nI_clamp (by omega)]
    rw [gs_gs, gs_comm (a := V) (b := V + 6) (by omega)]
    refine ml_asks116 hV hm hR hB hD hlw hne hk ⟨?_, ?_, ?_, ?_, ?_, ?_, ?_⟩ (fun a b c d => ⟨rfl, _, a, b, c, d, _, _, rfl⟩)
    · simp (disch := omega) only [upd_at, upd_ne, ne_eq]
    · simp (disch := omega) only [upd_at, upd_ne, ne_eq]
    · simp (disch := omega) only [upd_at, upd_ne, ne_eq]
    · simp (disch := omega) only [upd_at, upd_ne, ne_eq]
    · simp (disch := omega) only [upd_at, upd_ne, ne_eq]
    · simp (disch := omega) only [upd_at, upd_ne, ne_eq]
    · simp (disch := omega) only [upd_at, upd_ne, ne_eq]
  · try simp only [ge_iff_le] at c_22
    rw [gs_gs, gs_gs]
    have h0 : D.2.1 = 0 := by have hx := hlw.1; rcases hD1 with h9 | h9; exact h9.2; rw [hx, h9] at c_22; have := (nI_ltI (a := D.2.1) (b := 1) (by omega) (by decide)).mp (Int32.not_le.mp c_22); omega
    refine (show Wp E 56 0 0 kX8_asks _ (gs G V (mO V th hi ac tp ba en at_ fa dp io hm_ (nI 0) (nI 0) (nI 0))) (0, 0) 25 [.ref V, .int (nI k), .float 0, .float 0] [] from ?_)
    refine w_vret dX8_asks_25 rfl (Nat.le_of_ble_eq_true rfl) (Nat.le_of_ble_eq_true rfl) ?_
    rw [h0]
    exact ⟨rfl, F0, _, _, _, _, _, _, by rw [gs_id h6]; rfl⟩
