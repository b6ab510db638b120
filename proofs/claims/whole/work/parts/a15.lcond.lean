/-! the model: conditions -/
def AtC (E : EV) (d : Nat) (K : MR) (A : (Nat → Nat) → Nat → RS → PR) (N B : Nat) (dp : Int32) : Prop := ∀ (V n p : Nat) (th hi ac tp ba io hm_ we sh so : Int32) (y : Nat → Nat) (G : AH) (F : Nat → Int32), G.1 V = some (mO V th hi ac tp ba (nI n) (nI (p)) (-1) (dp) io hm_ we sh so) → TxP G V ba y n → n ≤ 400 → (∀ i, y i < 256) → p ≤ n → G.1 (V + 6) = some (aI 7 F) → Ci E d K [.ref V] G (fun r G1 => LPo G V n th hi ac tp ba dp io hm_ we sh so y (n + N) (A y n (skp y n p, -1)).1 G1 ∧ Bo r ∧ ((A y n (skp y n p, -1)).1.2 = -1 → ∀ T k, FOK T k F io hm_ → ∃ v, r = nI v ∧ ∀ b9, b9 + B ≤ 60 → EvV T k b9 (A y n (skp y n p, -1)).2 v))
theorem GdA.ev {y : Nat → Nat} {n : Nat} (hn : n ≤ 400) {A : RS → PR} (h : GdA n A) : GdA n (pEv y n A) := fun s hs => by
  obtain ⟨h1, h2⟩ := pEv_g (y := y) hn h hs
  exact ⟨h1, fun h9 => ⟨(h2 h9).1, (h2 h9).2.1, (h2 h9).2.2.1⟩⟩
theorem ml_everyX {E : EV} {Q : OC → AH → Prop} {V n p d : Nat} {th hi ac tp ba fa dp io hm_ we sh so : Int32} {G : AH} {r5 : Int32} {z : Value} (hV : G.1 V = some (mO V th hi ac tp ba (nI n) (nI (p)) (fa) dp io hm_ we sh so)) (hf : ¬ fa = -1) (hb : Bo r5) (hQ : Q (.inl (some (.int r5))) G) : Wp E d 0 0 kX8_every Q G (0, 0) 5 [.ref V, .int r5, z] [] := by
  refine w_aload_n dX8_every_5 rfl ?_
  refine w_getf dX8_every_6 fl_X8_25 (by first | assumption | exact gs_at | (rw [gs_ne (by omega)]; (first | assumption | exact gs_at | (rw [gs_ne (by omega)]; (first | assumption | exact gs_at | (rw [gs_ne (by omega)]; (first | assumption | exact gs_at | (rw [gs_ne (by omega)]; (first | assumption | exact gs_at))))))))) rfl ?_
  refine w_iconst (v := (-1)) dX8_every_9 (by decide) ?_
  refine w_icmp_ne (tgt := 44) dX8_every_10 (by decide) (fun c_10 => ?_) (fun c_10 => ?_)
  · skip
    refine w_iload_n dX8_every_44 rfl ?_
    refine w_zret dX8_every_45 rfl hb (by first | exact Nat.le_of_ble_eq_true rfl | omega) (by first | exact Nat.le_of_ble_eq_true rfl | omega) ?_
    exact hQ
  · skip
    exact absurd c_10 hf
theorem ml_every {E : EV} {Q : OC → AH → Prop} {A : (Nat → Nat) → Nat → RS → PR} {N B d : Nat} {V n : Nat} {th hi ac tp ba dp io hm_ we sh so : Int32} {y : Nat → Nat} {G : AH} {F : Nat → Int32} {R : PR} (hA : AtC E d kX8_atom A N B dp) (hg : GdA n (A y n)) (hBB : B + 5 ≤ 60) (hd9 : 9 ≤ d) (hT : TxP G V ba y n) (hn : n ≤ 400) (hy : ∀ i, y i < 256) (hF : G.1 (V + 6) = some (aI 7 F)) (hQ : ∀ (r : Int32) (G1 : AH), LPo G V n th hi ac tp ba dp io hm_ we sh so y (n + N) R.1 G1 → Bo r → (R.1.2 = -1 → ∀ T k, FOK T k F io hm_ → ∃ v, r = nI v ∧ ∀ b9, b9 + (B + 1) ≤ 60 → EvV T k b9 R.2 v) → Q (.inl (some (.int r))) G1) : ∀ (f : Nat) (r0 : PR) (p5 : Nat) (r5 : Int32) (z : Value), p5 ≤ n → r0.1.1 ≤ n → r0.1.2 = -1 → skp y n p5 = r0.1.1 → n - r0.1.1 < f → Bo r5 → (∀ T k, FOK T k F io hm_ → ∃ v, r5 = nI v ∧ ∀ b9, b9 + (B + 1) ≤ 60 → EvV T k b9 r0.2 v) → pEvL y n (A y n) f r0 = R → Wp E (d + 1) 0 0 kX8_every Q (gs G V (mO V th hi ac tp ba (nI n) (nI (p5)) (-1) (dp) io hm_ we sh so)) (0, 0) 5 [.ref V, .int r5, z] [] := by
  intro f
  induction f with
  | zero => intro r0 p5 r5 z h1 h2 h3 h4 h; exact absurd h (by omega)
  | succ f ih =>
    intro r0 p5 r5 z h1 h2 h3 h4 hf hb5 hv hR
    have hs0 := (skp_le (y := y) h1).2
    have etk : tkS y n r0.1 = (nxt y n r0.1.1, -1) := Prod.ext rfl h3
    rw [pEvL] at hR
    refine w_aload_n dX8_every_5 rfl ?_
    refine w_getf dX8_every_6 fl_X8_25 (by first | assumption | exact gs_at | (rw [gs_ne (by omega)]; (first | assumption | exact gs_at | (rw [gs_ne (by omega)]; (first | assumption | exact gs_at | (rw [gs_ne (by omega)]; (first | assumption | exact gs_at | (rw [gs_ne (by omega)]; (first | assumption | exact gs_at))))))))) rfl ?_
    refine w_iconst (v := (-1)) dX8_every_9 (by decide) ?_
    refine w_icmp_ne (tgt := 44) dX8_every_10 (by decide) (fun c_10 => ?_) (fun c_10 => ?_)
    · try simp only [nI_b2, Decidable.not_not, ne_eq] at c_10
      exact absurd trivial c_10
    · try simp only [nI_b2, Decidable.not_not, ne_eq] at c_10
      refine w_aload_n dX8_every_13 rfl ?_
      refine w_ldcS (i := 56) rfl rfl dX8_every_14 ?_
      refine wV1i dX8_every_16 lk_X8_86 rfl (by first | assumption | exact gs_at | (rw [gs_ne (by omega)]; (first | assumption | exact gs_at | (rw [gs_ne (by omega)]; (first | assumption | exact gs_at | (rw [gs_ne (by omega)]; (first | assumption | exact gs_at | (rw [gs_ne (by omega)]; (first | assumption | exact gs_at))))))))) rfl rfl (m_has (ws := [97, 110, 100]) rfl rfl (by decide) (by decide) (by decide) (by decide) gs_at hT.gs hn hy h1) (by first | exact Nat.le_of_ble_eq_true rfl | omega) (by first | exact Nat.le_of_ble_eq_true rfl | omega) (by first | exact Nat.le_of_ble_eq_true rfl | omega) (by first | exact Nat.le_of_ble_eq_true rfl | omega) (fun r_16 G_16 h_16 => ?_)
      obtain ⟨k2_16, k3_16⟩ := h_16
      rw [gs_gs] at k3_16
      rw [h4] at k2_16 k3_16
      subst k2_16
      refine w_ifN_eq (tgt := 44) dX8_every_19 (by decide) (fun c_19 => ?_) (fun c_19 => ?_)
      · try simp only [nI_b2, Decidable.not_not, ne_eq] at c_19
        rw [if_neg c_19] at k3_16
        subst k3_16
        rw [if_neg (fun h => c_19 h.2)] at hR
        subst hR
        refine w_iload_n dX8_every_44 rfl ?_
        refine w_zret dX8_every_45 rfl hb5 (by first | exact Nat.le_of_ble_eq_true rfl | omega) (by first | exact Nat.le_of_ble_eq_true rfl | omega) ?_
        refine hQ _ _ ?_ hb5 (fun _ => hv)
        exact ⟨r0.1.1, dp, by omega, by rw [h3], fun _ => ⟨h2, by rw [← h4]; exact skp_skp hn, rfl⟩⟩
      · try simp only [nI_b2, Decidable.not_not, ne_eq] at c_19
        rw [if_pos c_19] at k3_16
        subst k3_16
        rw [if_pos ⟨h3, c_19⟩] at hR
        obtain ⟨a1, a2⟩ := at_nxt h2 c_19
        simp only [List.length_cons, List.length_nil] at a1
        refine w_aload_n dX8_every_22 rfl ?_
        refine wV0i dX8_every_23 lk_X8_188 rfl (by first | assumption | exact gs_at | (rw [gs_ne (by omega)]; (first | assumption | exact gs_at | (rw [gs_ne (by omega)]; (first | assumption | exact gs_at | (rw [gs_ne (by omega)]; (first | assumption | exact gs_at | (rw [gs_ne (by omega)]; (first | assumption | exact gs_at))))))))) rfl rfl (hA _ _ (tokE y n r0.1.1) _ _ _ _ _ _ _ _ _ _ _ _ F gs_at hT.gs hn hy (tokE_le h2).2 ((gs_ne (by omega)).trans hF)) (by first | exact Nat.le_of_ble_eq_true rfl | omega) (by first | exact Nat.le_of_ble_eq_true rfl | omega) (by first | exact Nat.le_of_ble_eq_true rfl | omega) (by first | exact Nat.le_of_ble_eq_true rfl | omega) (fun r_23 G_23 h_23 => ?_)
        have ex : skp y n (tokE y n r0.1.1) = nxt y n r0.1.1 := rfl
        have h_23 := h_23
        rw [ex, ← etk] at h_23
        obtain ⟨g0, gb, g4⟩ := h_23
        replace g0 := g0.base
        obtain ⟨p7, dp7, g1, g2, g3⟩ := g0
        subst g2
        refine w_istore_2 dX8_every_26 rfl ?_
        refine w_iload_n dX8_every_27 rfl ?_
        refine w_ifN_eq (tgt := 39) dX8_every_28 (by decide) (fun c_28 => ?_) (fun c_28 => ?_)
        · try simp only [nI_b2, Decidable.not_not, ne_eq] at c_28
          refine w_iconst (v := nI 0) dX8_every_39 (by decide) ?_
          refine w_istore_1 dX8_every_40 rfl ?_
          refine w_goto (tgt := 5) dX8_every_41 (by decide) ?_
          by_cases h9 : (A y n (tkS y n r0.1)).1.2 = -1
          · obtain ⟨d1, d2, d3⟩ := g3 h9
            subst d3
            obtain ⟨q0, q1⟩ := hg (tkS y n r0.1) a2
            obtain ⟨-, q2, -⟩ := q1 h9
            have q3 : nxt y n r0.1.1 < (A y n (tkS y n r0.1)).1.1 := q2
            rw [h9]
            refine ih ((A y n (tkS y n r0.1)).1, r0.2 ++ ((A y n (tkS y n r0.1)).2 ++ [-14])) p7 _ _ d1 q0 h9 d2 (by simp only; omega) (by decide) (fun T k hf => ?_) hR
            obtain ⟨v, e1, u1⟩ := hv T k hf
            obtain ⟨w, e2, u2⟩ := g4 h9 T k hf
            have v1 := (u1 0 (by omega)).1
            have w1 := (u2 0 (by omega)).1
            refine ⟨if v = 1 ∧ w = 1 then 1 else 0, ?_, fun b9 hb => EvV.and (by omega) (u1 b9 (by omega)) (u2 (b9 + 1) (by omega))⟩
            have hv0 : r5 = nI 0 ↔ v = 0 := by rw [e1, nI_eq (by omega) (by omega)]
            have hw0 : r_23 = nI 0 ↔ w = 0 := by rw [e2, nI_eq (by omega) (by omega)]
            first
              | (rw [if_pos (by omega)]; done)
              | (rw [if_neg (by omega)]; done)
              | (rw [hv0] at c_28; first | (rw [if_pos (by omega)]; done) | (rw [if_neg (by omega)]; done))
              | (rw [hv0] at c_28; rw [hw0] at c_32; first | (rw [if_pos (by omega)]; done) | (rw [if_neg (by omega)]; done))
          · rw [pEvL_bad (by exact h9)] at hR
            subst hR
            exact ml_everyX gs_at h9 (by decide) (hQ _ _ ⟨p7, dp7, g1, rfl, fun h => absurd h h9⟩ (by decide) (fun h => absurd h h9))
        · try simp only [nI_b2, Decidable.not_not, ne_eq] at c_28
          refine w_iload_n dX8_every_31 rfl ?_
          refine w_ifN_eq (tgt := 39) dX8_every_32 (by decide) (fun c_32 => ?_) (fun c_32 => ?_)
          · try simp only [nI_b2, Decidable.not_not, ne_eq] at c_32
            refine w_iconst (v := nI 0) dX8_every_39 (by decide) ?_
            refine w_istore_1 dX8_every_40 rfl ?_
            refine w_goto (tgt := 5) dX8_every_41 (by decide) ?_
            by_cases h9 : (A y n (tkS y n r0.1)).1.2 = -1
            · obtain ⟨d1, d2, d3⟩ := g3 h9
              subst d3
              obtain ⟨q0, q1⟩ := hg (tkS y n r0.1) a2
              obtain ⟨-, q2, -⟩ := q1 h9
              have q3 : nxt y n r0.1.1 < (A y n (tkS y n r0.1)).1.1 := q2
              rw [h9]
              refine ih ((A y n (tkS y n r0.1)).1, r0.2 ++ ((A y n (tkS y n r0.1)).2 ++ [-14])) p7 _ _ d1 q0 h9 d2 (by simp only; omega) (by decide) (fun T k hf => ?_) hR
              obtain ⟨v, e1, u1⟩ := hv T k hf
              obtain ⟨w, e2, u2⟩ := g4 h9 T k hf
              have v1 := (u1 0 (by omega)).1
              have w1 := (u2 0 (by omega)).1
              refine ⟨if v = 1 ∧ w = 1 then 1 else 0, ?_, fun b9 hb => EvV.and (by omega) (u1 b9 (by omega)) (u2 (b9 + 1) (by omega))⟩
              have hv0 : r5 = nI 0 ↔ v = 0 := by rw [e1, nI_eq (by omega) (by omega)]
              have hw0 : r_23 = nI 0 ↔ w = 0 := by rw [e2, nI_eq (by omega) (by omega)]
              first
                | (rw [if_pos (by omega)]; done)
                | (rw [if_neg (by omega)]; done)
                | (rw [hv0] at c_28; first | (rw [if_pos (by omega)]; done) | (rw [if_neg (by omega)]; done))
                | (rw [hv0] at c_28; rw [hw0] at c_32; first | (rw [if_pos (by omega)]; done) | (rw [if_neg (by omega)]; done))
            · rw [pEvL_bad (by exact h9)] at hR
              subst hR
              exact ml_everyX gs_at h9 (by decide) (hQ _ _ ⟨p7, dp7, g1, rfl, fun h => absurd h h9⟩ (by decide) (fun h => absurd h h9))
          · try simp only [nI_b2, Decidable.not_not, ne_eq] at c_32
            refine w_iconst (v := nI 1) dX8_every_35 (by decide) ?_
            refine w_goto (tgt := 40) dX8_every_36 (by decide) ?_
            refine w_istore_1 dX8_every_40 rfl ?_
            refine w_goto (tgt := 5) dX8_every_41 (by decide) ?_
            by_cases h9 : (A y n (tkS y n r0.1)).1.2 = -1
            · obtain ⟨d1, d2, d3⟩ := g3 h9
              subst d3
              obtain ⟨q0, q1⟩ := hg (tkS y n r0.1) a2
              obtain ⟨-, q2, -⟩ := q1 h9
              have q3 : nxt y n r0.1.1 < (A y n (tkS y n r0.1)).1.1 := q2
              rw [h9]
              refine ih ((A y n (tkS y n r0.1)).1, r0.2 ++ ((A y n (tkS y n r0.1)).2 ++ [-14])) p7 _ _ d1 q0 h9 d2 (by simp only; omega) (by decide) (fun T k hf => ?_) hR
              obtain ⟨v, e1, u1⟩ := hv T k hf
              obtain ⟨w, e2, u2⟩ := g4 h9 T k hf
              have v1 := (u1 0 (by omega)).1
              have w1 := (u2 0 (by omega)).1
              refine ⟨if v = 1 ∧ w = 1 then 1 else 0, ?_, fun b9 hb => EvV.and (by omega) (u1 b9 (by omega)) (u2 (b9 + 1) (by omega))⟩
              have hv0 : r5 = nI 0 ↔ v = 0 := by rw [e1, nI_eq (by omega) (by omega)]
              have hw0 : r_23 = nI 0 ↔ w = 0 := by rw [e2, nI_eq (by omega) (by omega)]
              first
                | (rw [if_pos (by omega)]; done)
                | (rw [if_neg (by omega)]; done)
                | (rw [hv0] at c_28; first | (rw [if_pos (by omega)]; done) | (rw [if_neg (by omega)]; done))
                | (rw [hv0] at c_28; rw [hw0] at c_32; first | (rw [if_pos (by omega)]; done) | (rw [if_neg (by omega)]; done))
            · rw [pEvL_bad (by exact h9)] at hR
              subst hR
              exact ml_everyX gs_at h9 (by decide) (hQ _ _ ⟨p7, dp7, g1, rfl, fun h => absurd h h9⟩ (by decide) (fun h => absurd h h9))
theorem m_every {E : EV} {A : (Nat → Nat) → Nat → RS → PR} {N B d : Nat} {dp : Int32} (hA : AtC E d kX8_atom A N B dp) (hg : ∀ (y : Nat → Nat) (n : Nat), n ≤ 400 → GdA n (A y n)) (hBB : B + 5 ≤ 60) (hd9 : 9 ≤ d) : AtC E (d + 1) kX8_every (fun y n => pEv y n (A y n)) N ((B + 1)) dp := by
  intro V n p th hi ac tp ba io hm_ we sh so y G F hV hT hn hy hp hF
  have hb0 : skp y n p ≤ n := (skp_le (y := y) hp).2
  obtain ⟨q0, q1⟩ := (hg y n hn) (skp y n p, -1) hb0
  refine Ct.intro rfl (by decide) [.ref V, .float 0, .float 0] (by simp [Value.category]) (by first | exact Nat.le_of_ble_eq_true rfl | omega) rfl ?_
  refine w_aload_n dX8_every_0 rfl ?_
  refine wV0i dX8_every_1 lk_X8_188 rfl (by first | assumption | exact gs_at | (rw [gs_ne (by omega)]; (first | assumption | exact gs_at | (rw [gs_ne (by omega)]; (first | assumption | exact gs_at | (rw [gs_ne (by omega)]; (first | assumption | exact gs_at | (rw [gs_ne (by omega)]; (first | assumption | exact gs_at))))))))) rfl rfl (hA _ _ _ _ _ _ _ _ _ _ _ _ _ _ _ _ hV hT hn hy hp hF) (by first | exact Nat.le_of_ble_eq_true rfl | omega) (by first | exact Nat.le_of_ble_eq_true rfl | omega) (by first | exact Nat.le_of_ble_eq_true rfl | omega) (by first | exact Nat.le_of_ble_eq_true rfl | omega) (fun r_1 G_1 h_1 => ?_)
  obtain ⟨⟨p7, dp7, g1, g2, g3⟩, gb, g4⟩ := h_1
  subst g2
  refine w_istore_1 dX8_every_4 rfl ?_
  by_cases h9 : (A y n (skp y n p, -1)).1.2 = -1
  · obtain ⟨d1, d2, d3⟩ := g3 h9
    subst d3
    obtain ⟨-, q2, -⟩ := q1 h9
    have q3 : skp y n p < (A y n (skp y n p, -1)).1.1 := q2
    rw [h9]
    exact ml_every (R := pEv y n (A y n) (skp y n p, -1)) hA (hg y n hn) hBB hd9 hT hn hy hF (fun r G1 h1 h2 h3 => ⟨r, rfl, h1, h2, h3⟩) 400 (A y n (skp y n p, -1)) p7 r_1 _ d1 q0 h9 d2 (by omega) gb (fun T k hf => by obtain ⟨v, e1, u1⟩ := g4 h9 T k hf; exact ⟨v, e1, fun b9 hb => u1 b9 (by omega)⟩) rfl
  · have e : pEv y n (A y n) (skp y n p, -1) = (A y n (skp y n p, -1)) := pEvL_bad h9 400
    exact ml_everyX gs_at h9 gb ⟨_, rfl, ⟨p7, dp7, g1, by dsimp only; rw [e], fun h => absurd ((congrArg (fun q : PR => q.1.2) e).symm.trans h) h9⟩, gb, fun h => absurd ((congrArg (fun q : PR => q.1.2) e).symm.trans h) h9⟩
theorem ml_someX {E : EV} {Q : OC → AH → Prop} {V n p d : Nat} {th hi ac tp ba fa dp io hm_ we sh so : Int32} {G : AH} {r5 : Int32} {z : Value} (hV : G.1 V = some (mO V th hi ac tp ba (nI n) (nI (p)) (fa) dp io hm_ we sh so)) (hf : ¬ fa = -1) (hb : Bo r5) (hQ : Q (.inl (some (.int r5))) G) : Wp E d 0 0 kX8_some Q G (0, 0) 5 [.ref V, .int r5, z] [] := by
  refine w_aload_n dX8_some_5 rfl ?_
  refine w_getf dX8_some_6 fl_X8_25 (by first | assumption | exact gs_at | (rw [gs_ne (by omega)]; (first | assumption | exact gs_at | (rw [gs_ne (by omega)]; (first | assumption | exact gs_at | (rw [gs_ne (by omega)]; (first | assumption | exact gs_at | (rw [gs_ne (by omega)]; (first | assumption | exact gs_at))))))))) rfl ?_
  refine w_iconst (v := (-1)) dX8_some_9 (by decide) ?_
  refine w_icmp_ne (tgt := 44) dX8_some_10 (by decide) (fun c_10 => ?_) (fun c_10 => ?_)
  · skip
    refine w_iload_n dX8_some_44 rfl ?_
    refine w_zret dX8_some_45 rfl hb (by first | exact Nat.le_of_ble_eq_true rfl | omega) (by first | exact Nat.le_of_ble_eq_true rfl | omega) ?_
    exact hQ
  · skip
    exact absurd c_10 hf
theorem ml_some {E : EV} {Q : OC → AH → Prop} {A : (Nat → Nat) → Nat → RS → PR} {N B d : Nat} {V n : Nat} {th hi ac tp ba dp io hm_ we sh so : Int32} {y : Nat → Nat} {G : AH} {F : Nat → Int32} {R : PR} (hA : AtC E d kX8_every (fun y n => pEv y n (A y n)) N (B + 1) dp) (hg : GdA n (A y n)) (hBB : B + 5 ≤ 60) (hd9 : 9 ≤ d) (hT : TxP G V ba y n) (hn : n ≤ 400) (hy : ∀ i, y i < 256) (hF : G.1 (V + 6) = some (aI 7 F)) (hQ : ∀ (r : Int32) (G1 : AH), LPo G V n th hi ac tp ba dp io hm_ we sh so y (n + N) R.1 G1 → Bo r → (R.1.2 = -1 → ∀ T k, FOK T k F io hm_ → ∃ v, r = nI v ∧ ∀ b9, b9 + (B + 2) ≤ 60 → EvV T k b9 R.2 v) → Q (.inl (some (.int r))) G1) : ∀ (f : Nat) (r0 : PR) (p5 : Nat) (r5 : Int32) (z : Value), p5 ≤ n → r0.1.1 ≤ n → r0.1.2 = -1 → skp y n p5 = r0.1.1 → n - r0.1.1 < f → Bo r5 → (∀ T k, FOK T k F io hm_ → ∃ v, r5 = nI v ∧ ∀ b9, b9 + (B + 2) ≤ 60 → EvV T k b9 r0.2 v) → pSoL y n (A y n) f r0 = R → Wp E (d + 1) 0 0 kX8_some Q (gs G V (mO V th hi ac tp ba (nI n) (nI (p5)) (-1) (dp) io hm_ we sh so)) (0, 0) 5 [.ref V, .int r5, z] [] := by
  intro f
  induction f with
  | zero => intro r0 p5 r5 z h1 h2 h3 h4 h; exact absurd h (by omega)
  | succ f ih =>
    intro r0 p5 r5 z h1 h2 h3 h4 hf hb5 hv hR
    have hs0 := (skp_le (y := y) h1).2
    have etk : tkS y n r0.1 = (nxt y n r0.1.1, -1) := Prod.ext rfl h3
    rw [pSoL] at hR
    refine w_aload_n dX8_some_5 rfl ?_
    refine w_getf dX8_some_6 fl_X8_25 (by first | assumption | exact gs_at | (rw [gs_ne (by omega)]; (first | assumption | exact gs_at | (rw [gs_ne (by omega)]; (first | assumption | exact gs_at | (rw [gs_ne (by omega)]; (first | assumption | exact gs_at | (rw [gs_ne (by omega)]; (first | assumption | exact gs_at))))))))) rfl ?_
    refine w_iconst (v := (-1)) dX8_some_9 (by decide) ?_
    refine w_icmp_ne (tgt := 44) dX8_some_10 (by decide) (fun c_10 => ?_) (fun c_10 => ?_)
    · try simp only [nI_b2, Decidable.not_not, ne_eq] at c_10
      exact absurd trivial c_10
    · try simp only [nI_b2, Decidable.not_not, ne_eq] at c_10
      refine w_aload_n dX8_some_13 rfl ?_
      refine w_ldcS (i := 57) rfl rfl dX8_some_14 ?_
      refine wV1i dX8_some_16 lk_X8_86 rfl (by first | assumption | exact gs_at | (rw [gs_ne (by omega)]; (first | assumption | exact gs_at | (rw [gs_ne (by omega)]; (first | assumption | exact gs_at | (rw [gs_ne (by omega)]; (first | assumption | exact gs_at | (rw [gs_ne (by omega)]; (first | assumption | exact gs_at))))))))) rfl rfl (m_has (ws := [111, 114]) rfl rfl (by decide) (by decide) (by decide) (by decide) gs_at hT.gs hn hy h1) (by first | exact Nat.le_of_ble_eq_true rfl | omega) (by first | exact Nat.le_of_ble_eq_true rfl | omega) (by first | exact Nat.le_of_ble_eq_true rfl | omega) (by first | exact Nat.le_of_ble_eq_true rfl | omega) (fun r_16 G_16 h_16 => ?_)
      obtain ⟨k2_16, k3_16⟩ := h_16
      rw [gs_gs] at k3_16
      rw [h4] at k2_16 k3_16
      subst k2_16
      refine w_ifN_eq (tgt := 44) dX8_some_19 (by decide) (fun c_19 => ?_) (fun c_19 => ?_)
      · try simp only [nI_b2, Decidable.not_not, ne_eq] at c_19
        rw [if_neg c_19] at k3_16
        subst k3_16
        rw [if_neg (fun h => c_19 h.2)] at hR
        subst hR
        refine w_iload_n dX8_some_44 rfl ?_
        refine w_zret dX8_some_45 rfl hb5 (by first | exact Nat.le_of_ble_eq_true rfl | omega) (by first | exact Nat.le_of_ble_eq_true rfl | omega) ?_
        refine hQ _ _ ?_ hb5 (fun _ => hv)
        exact ⟨r0.1.1, dp, by omega, by rw [h3], fun _ => ⟨h2, by rw [← h4]; exact skp_skp hn, rfl⟩⟩
      · try simp only [nI_b2, Decidable.not_not, ne_eq] at c_19
        rw [if_pos c_19] at k3_16
        subst k3_16
        rw [if_pos ⟨h3, c_19⟩] at hR
        obtain ⟨a1, a2⟩ := at_nxt h2 c_19
        simp only [List.length_cons, List.length_nil] at a1
        refine w_aload_n dX8_some_22 rfl ?_
        refine wV0i dX8_some_23 lk_X8_196 rfl (by first | assumption | exact gs_at | (rw [gs_ne (by omega)]; (first | assumption | exact gs_at | (rw [gs_ne (by omega)]; (first | assumption | exact gs_at | (rw [gs_ne (by omega)]; (first | assumption | exact gs_at | (rw [gs_ne (by omega)]; (first | assumption | exact gs_at))))))))) rfl rfl (hA _ _ (tokE y n r0.1.1) _ _ _ _ _ _ _ _ _ _ _ _ F gs_at hT.gs hn hy (tokE_le h2).2 ((gs_ne (by omega)).trans hF)) (by first | exact Nat.le_of_ble_eq_true rfl | omega) (by first | exact Nat.le_of_ble_eq_true rfl | omega) (by first | exact Nat.le_of_ble_eq_true rfl | omega) (by first | exact Nat.le_of_ble_eq_true rfl | omega) (fun r_23 G_23 h_23 => ?_)
        have ex : skp y n (tokE y n r0.1.1) = nxt y n r0.1.1 := rfl
        have h_23 := h_23
        rw [ex, ← etk] at h_23
        obtain ⟨g0, gb, g4⟩ := h_23
        replace g0 := g0.base
        obtain ⟨p7, dp7, g1, g2, g3⟩ := g0
        subst g2
        refine w_istore_2 dX8_some_26 rfl ?_
        refine w_iload_n dX8_some_27 rfl ?_
        refine w_ifN_ne (tgt := 35) dX8_some_28 (by decide) (fun c_28 => ?_) (fun c_28 => ?_)
        · try simp only [nI_b2, Decidable.not_not, ne_eq] at c_28
          refine w_iconst (v := nI 1) dX8_some_35 (by decide) ?_
          refine w_goto (tgt := 40) dX8_some_36 (by decide) ?_
          refine w_istore_1 dX8_some_40 rfl ?_
          refine w_goto (tgt := 5) dX8_some_41 (by decide) ?_
          by_cases h9 : (pEv y n (A y n) (tkS y n r0.1)).1.2 = -1
          · obtain ⟨d1, d2, d3⟩ := g3 h9
            subst d3
            obtain ⟨q0, q1⟩ := (GdA.ev (y := y) hn hg) (tkS y n r0.1) a2
            obtain ⟨-, q2, -⟩ := q1 h9
            have q3 : nxt y n r0.1.1 < (pEv y n (A y n) (tkS y n r0.1)).1.1 := q2
            rw [h9]
            refine ih ((pEv y n (A y n) (tkS y n r0.1)).1, r0.2 ++ ((pEv y n (A y n) (tkS y n r0.1)).2 ++ [-15])) p7 _ _ d1 q0 h9 d2 (by simp only; omega) (by decide) (fun T k hf => ?_) hR
            obtain ⟨v, e1, u1⟩ := hv T k hf
            obtain ⟨w, e2, u2⟩ := g4 h9 T k hf
            have v1 := (u1 0 (by omega)).1
            have w1 := (u2 0 (by omega)).1
            refine ⟨if v = 1 ∨ w = 1 then 1 else 0, ?_, fun b9 hb => EvV.or (by omega) (u1 b9 (by omega)) (u2 (b9 + 1) (by omega))⟩
            have hv0 : r5 = nI 0 ↔ v = 0 := by rw [e1, nI_eq (by omega) (by omega)]
            have hw0 : r_23 = nI 0 ↔ w = 0 := by rw [e2, nI_eq (by omega) (by omega)]
            first
              | (rw [if_pos (by omega)]; done)
              | (rw [if_neg (by omega)]; done)
              | (rw [hv0] at c_28; first | (rw [if_pos (by omega)]; done) | (rw [if_neg (by omega)]; done))
              | (rw [hv0] at c_28; rw [hw0] at c_32; first | (rw [if_pos (by omega)]; done) | (rw [if_neg (by omega)]; done))
          · rw [pSoL_bad (by exact h9)] at hR
            subst hR
            exact ml_someX gs_at h9 (by decide) (hQ _ _ ⟨p7, dp7, g1, rfl, fun h => absurd h h9⟩ (by decide) (fun h => absurd h h9))
        · try simp only [nI_b2, Decidable.not_not, ne_eq] at c_28
          refine w_iload_n dX8_some_31 rfl ?_
          refine w_ifN_eq (tgt := 39) dX8_some_32 (by decide) (fun c_32 => ?_) (fun c_32 => ?_)
          · try simp only [nI_b2, Decidable.not_not, ne_eq] at c_32
            refine w_iconst (v := nI 0) dX8_some_39 (by decide) ?_
            refine w_istore_1 dX8_some_40 rfl ?_
            refine w_goto (tgt := 5) dX8_some_41 (by decide) ?_
            by_cases h9 : (pEv y n (A y n) (tkS y n r0.1)).1.2 = -1
            · obtain ⟨d1, d2, d3⟩ := g3 h9
              subst d3
              obtain ⟨q0, q1⟩ := (GdA.ev (y := y) hn hg) (tkS y n r0.1) a2
              obtain ⟨-, q2, -⟩ := q1 h9
              have q3 : nxt y n r0.1.1 < (pEv y n (A y n) (tkS y n r0.1)).1.1 := q2
              rw [h9]
              refine ih ((pEv y n (A y n) (tkS y n r0.1)).1, r0.2 ++ ((pEv y n (A y n) (tkS y n r0.1)).2 ++ [-15])) p7 _ _ d1 q0 h9 d2 (by simp only; omega) (by decide) (fun T k hf => ?_) hR
              obtain ⟨v, e1, u1⟩ := hv T k hf
              obtain ⟨w, e2, u2⟩ := g4 h9 T k hf
              have v1 := (u1 0 (by omega)).1
              have w1 := (u2 0 (by omega)).1
              refine ⟨if v = 1 ∨ w = 1 then 1 else 0, ?_, fun b9 hb => EvV.or (by omega) (u1 b9 (by omega)) (u2 (b9 + 1) (by omega))⟩
              have hv0 : r5 = nI 0 ↔ v = 0 := by rw [e1, nI_eq (by omega) (by omega)]
              have hw0 : r_23 = nI 0 ↔ w = 0 := by rw [e2, nI_eq (by omega) (by omega)]
              first
                | (rw [if_pos (by omega)]; done)
                | (rw [if_neg (by omega)]; done)
                | (rw [hv0] at c_28; first | (rw [if_pos (by omega)]; done) | (rw [if_neg (by omega)]; done))
                | (rw [hv0] at c_28; rw [hw0] at c_32; first | (rw [if_pos (by omega)]; done) | (rw [if_neg (by omega)]; done))
            · rw [pSoL_bad (by exact h9)] at hR
              subst hR
              exact ml_someX gs_at h9 (by decide) (hQ _ _ ⟨p7, dp7, g1, rfl, fun h => absurd h h9⟩ (by decide) (fun h => absurd h h9))
          · try simp only [nI_b2, Decidable.not_not, ne_eq] at c_32
            refine w_iconst (v := nI 1) dX8_some_35 (by decide) ?_
            refine w_goto (tgt := 40) dX8_some_36 (by decide) ?_
            refine w_istore_1 dX8_some_40 rfl ?_
            refine w_goto (tgt := 5) dX8_some_41 (by decide) ?_
            by_cases h9 : (pEv y n (A y n) (tkS y n r0.1)).1.2 = -1
            · obtain ⟨d1, d2, d3⟩ := g3 h9
              subst d3
              obtain ⟨q0, q1⟩ := (GdA.ev (y := y) hn hg) (tkS y n r0.1) a2
              obtain ⟨-, q2, -⟩ := q1 h9
              have q3 : nxt y n r0.1.1 < (pEv y n (A y n) (tkS y n r0.1)).1.1 := q2
              rw [h9]
              refine ih ((pEv y n (A y n) (tkS y n r0.1)).1, r0.2 ++ ((pEv y n (A y n) (tkS y n r0.1)).2 ++ [-15])) p7 _ _ d1 q0 h9 d2 (by simp only; omega) (by decide) (fun T k hf => ?_) hR
              obtain ⟨v, e1, u1⟩ := hv T k hf
              obtain ⟨w, e2, u2⟩ := g4 h9 T k hf
              have v1 := (u1 0 (by omega)).1
              have w1 := (u2 0 (by omega)).1
              refine ⟨if v = 1 ∨ w = 1 then 1 else 0, ?_, fun b9 hb => EvV.or (by omega) (u1 b9 (by omega)) (u2 (b9 + 1) (by omega))⟩
              have hv0 : r5 = nI 0 ↔ v = 0 := by rw [e1, nI_eq (by omega) (by omega)]
              have hw0 : r_23 = nI 0 ↔ w = 0 := by rw [e2, nI_eq (by omega) (by omega)]
              first
                | (rw [if_pos (by omega)]; done)
                | (rw [if_neg (by omega)]; done)
                | (rw [hv0] at c_28; first | (rw [if_pos (by omega)]; done) | (rw [if_neg (by omega)]; done))
                | (rw [hv0] at c_28; rw [hw0] at c_32; first | (rw [if_pos (by omega)]; done) | (rw [if_neg (by omega)]; done))
            · rw [pSoL_bad (by exact h9)] at hR
              subst hR
              exact ml_someX gs_at h9 (by decide) (hQ _ _ ⟨p7, dp7, g1, rfl, fun h => absurd h h9⟩ (by decide) (fun h => absurd h h9))
theorem m_some {E : EV} {A : (Nat → Nat) → Nat → RS → PR} {N B d : Nat} {dp : Int32} (hA : AtC E d kX8_every (fun y n => pEv y n (A y n)) N (B + 1) dp) (hg : ∀ (y : Nat → Nat) (n : Nat), n ≤ 400 → GdA n (A y n)) (hBB : B + 5 ≤ 60) (hd9 : 9 ≤ d) : AtC E (d + 1) kX8_some (fun y n => pSo y n (A y n)) N ((B + 2)) dp := by
  intro V n p th hi ac tp ba io hm_ we sh so y G F hV hT hn hy hp hF
  have hb0 : skp y n p ≤ n := (skp_le (y := y) hp).2
  obtain ⟨q0, q1⟩ := (GdA.ev (y := y) hn (hg y n hn)) (skp y n p, -1) hb0
  refine Ct.intro rfl (by decide) [.ref V, .float 0, .float 0] (by simp [Value.category]) (by first | exact Nat.le_of_ble_eq_true rfl | omega) rfl ?_
  refine w_aload_n dX8_some_0 rfl ?_
  refine wV0i dX8_some_1 lk_X8_196 rfl (by first | assumption | exact gs_at | (rw [gs_ne (by omega)]; (first | assumption | exact gs_at | (rw [gs_ne (by omega)]; (first | assumption | exact gs_at | (rw [gs_ne (by omega)]; (first | assumption | exact gs_at | (rw [gs_ne (by omega)]; (first | assumption | exact gs_at))))))))) rfl rfl (hA _ _ _ _ _ _ _ _ _ _ _ _ _ _ _ _ hV hT hn hy hp hF) (by first | exact Nat.le_of_ble_eq_true rfl | omega) (by first | exact Nat.le_of_ble_eq_true rfl | omega) (by first | exact Nat.le_of_ble_eq_true rfl | omega) (by first | exact Nat.le_of_ble_eq_true rfl | omega) (fun r_1 G_1 h_1 => ?_)
  obtain ⟨⟨p7, dp7, g1, g2, g3⟩, gb, g4⟩ := h_1
  subst g2
  refine w_istore_1 dX8_some_4 rfl ?_
  by_cases h9 : (pEv y n (A y n) (skp y n p, -1)).1.2 = -1
  · obtain ⟨d1, d2, d3⟩ := g3 h9
    subst d3
    obtain ⟨-, q2, -⟩ := q1 h9
    have q3 : skp y n p < (pEv y n (A y n) (skp y n p, -1)).1.1 := q2
    rw [h9]
    exact ml_some (R := pSo y n (A y n) (skp y n p, -1)) hA (hg y n hn) hBB hd9 hT hn hy hF (fun r G1 h1 h2 h3 => ⟨r, rfl, h1, h2, h3⟩) 400 (pEv y n (A y n) (skp y n p, -1)) p7 r_1 _ d1 q0 h9 d2 (by omega) gb (fun T k hf => by obtain ⟨v, e1, u1⟩ := g4 h9 T k hf; exact ⟨v, e1, fun b9 hb => u1 b9 (by omega)⟩) rfl
  · have e : pSo y n (A y n) (skp y n p, -1) = (pEv y n (A y n) (skp y n p, -1)) := pSoL_bad h9 400
    exact ml_someX gs_at h9 gb ⟨_, rfl, ⟨p7, dp7, g1, by dsimp only; rw [e], fun h => absurd ((congrArg (fun q : PR => q.1.2) e).symm.trans h) h9⟩, gb, fun h => absurd ((congrArg (fun q : PR => q.1.2) e).symm.trans h) h9⟩
