/-! the model: a text of the law is read -/
theorem m_skipO {E : EV} {V n p : Nat} {th hi ac tp ba fa dp io hm_ we sh so : Int32} {G : AH} (hV : G.1 V = some (mO V th hi ac tp ba (nI n) (nI (p)) fa dp io hm_ we sh so)) (hn : n ≤ 400) (hp : n ≤ p) (hp2 : p < 2 ^ 20) : Cn E 2 kX8_skip [.ref V] G G := by
  refine Ct.intro rfl (by decide) [.ref V] (by simp [Value.category]) (Nat.le_of_ble_eq_true rfl) rfl ?_
  refine w_aload_n dX8_skip_0 rfl ?_
  refine w_getf dX8_skip_1 fl_X8_56 (by first | assumption | exact gs_at | (rw [gs_ne (by omega)]; (first | assumption | exact gs_at | (rw [gs_ne (by omega)]; (first | assumption | exact gs_at | (rw [gs_ne (by omega)]; (first | assumption | exact gs_at | (rw [gs_ne (by omega)]; (first | assumption | exact gs_at))))))))) rfl ?_
  refine w_aload_n dX8_skip_4 rfl ?_
  refine w_getf dX8_skip_5 fl_X8_59 (by first | assumption | exact gs_at | (rw [gs_ne (by omega)]; (first | assumption | exact gs_at | (rw [gs_ne (by omega)]; (first | assumption | exact gs_at | (rw [gs_ne (by omega)]; (first | assumption | exact gs_at | (rw [gs_ne (by omega)]; (first | assumption | exact gs_at))))))))) rfl ?_
  refine w_icmp_ge (tgt := 37) dX8_skip_8 (by decide) (fun c_8 => ?_) (fun c_8 => ?_)
  · try simp (disch := omega) only [nI_b2, Decidable.not_not, nI_ltI, nI_leI, nI_eq, ge_iff_le, gt_iff_lt, ne_eq, Nat.not_lt, Nat.not_le] at c_8
    refine w_vret dX8_skip_37 rfl (Nat.le_of_ble_eq_true rfl) (Nat.le_of_ble_eq_true rfl) ?_
    exact ⟨rfl, rfl⟩
  · try simp (disch := omega) only [nI_b2, Decidable.not_not, nI_ltI, nI_leI, nI_eq, ge_iff_le, gt_iff_lt, ne_eq, Nat.not_lt, Nat.not_le] at c_8
    exact absurd c_8 (by omega)
theorem ml_rd80F {E : EV} {Q : OC → AH → Prop} {V n p : Nat} {th hi ac tp ba fa dp io hm_ we sh so : Int32} {y : Nat → Nat} {G : AH} {lw : Int32} {i : Nat} (hV : G.1 V = some (mO V th hi ac tp ba (nI n) (nI (p)) fa dp io hm_ we sh so)) (hT : TxP G V ba y n) (hn : n ≤ 400) (hy : ∀ i, y i < 256) (hp : p < 2 ^ 20) (hf : ¬ fa = -1) (hQ : ∀ p2, Q (.inl (some (.int (nI (i + 1))))) (gs G V (mO V th hi ac tp ba (nI n) (nI (p2)) fa dp io hm_ we sh so))) : Wp E 55 0 0 kX8_read Q G (0, 0) 80 [.ref V, .int lw, .int (nI 1), .int (nI i)] [] := by
  by_cases h : p ≤ n
  · exact ml_rd80 hV hT hn hy h (fun _ p2 _ => hQ p2) (fun h9 => absurd h9 hf) (fun h9 => absurd h9 hf) (fun h9 => absurd h9 hf)
  · have hQp := hQ p
    rw [gs_id hV] at hQp
    first | refine w_iinc_3 dX8_read_80 (nI_inc _) rfl ?_ | refine w_iinc_3 dX8_read_80 rfl rfl ?_
    refine w_aload_n dX8_read_83 rfl ?_
    refine wV0n dX8_read_84 lk_X8_66 rfl (by first | assumption | exact gs_at | (rw [gs_ne (by omega)]; (first | assumption | exact gs_at | (rw [gs_ne (by omega)]; (first | assumption | exact gs_at | (rw [gs_ne (by omega)]; (first | assumption | exact gs_at | (rw [gs_ne (by omega)]; (first | assumption | exact gs_at))))))))) rfl rfl (m_skipO hV hn (by omega) hp) (Nat.le_of_ble_eq_true rfl) (Nat.le_of_ble_eq_true rfl) (Nat.le_of_ble_eq_true rfl) (Nat.le_of_ble_eq_true rfl) ?_
    refine w_aload_n dX8_read_87 rfl ?_
    refine w_getf dX8_read_88 fl_X8_25 (by first | assumption | exact gs_at | (rw [gs_ne (by omega)]; (first | assumption | exact gs_at | (rw [gs_ne (by omega)]; (first | assumption | exact gs_at | (rw [gs_ne (by omega)]; (first | assumption | exact gs_at | (rw [gs_ne (by omega)]; (first | assumption | exact gs_at))))))))) rfl ?_
    refine w_iconst (v := (-1)) dX8_read_91 (by decide) ?_
    refine w_icmp_ne (tgt := 106) dX8_read_92 (by decide) (fun c_92 => ?_) (fun c_92 => ?_)
    · skip
      refine w_iconst (v := nI 0) dX8_read_106 (by decide) ?_
      refine w_istore_2 dX8_read_107 rfl ?_
      refine w_goto (tgt := 23) dX8_read_108 (by decide) ?_
      exact ml_rdX0 hQp
    · skip
      exact absurd c_92 hf
theorem uEnd_bad {n : Nat} {u : US} (h : ¬ u.1.2 = -1) : (uEnd n u).1.2 = u.1.2 := by
  unfold uEnd
  split
  · rfl
  · exact rfU_bad h
theorem uEnd_at {n : Nat} {u : US} (h : n ≤ u.1.1) : uEnd n u = u := if_pos h
theorem uEnd_no {n : Nat} {u : US} (h : ¬ n ≤ u.1.1) (hw : u.1.2 = -1) : (uEnd n u).1.2 = nI u.1.1 := by
  unfold uEnd
  rw [if_neg h]
  exact rfU_ok hw
theorem uEnd_X {n : Nat} {u : US} : (uEnd n u).2 = u.2 := by
  unfold uEnd
  split <;> rfl
theorem ml_rdL {E : EV} {Q : OC → AH → Prop} {V n : Nat} {th hi ac tp ba io hm_ we0 sh0 so0 : Int32} {y : Nat → Nat} {G : AH} {F : Nat → Int32} {UU : US} (hT : TxP G V ba y n) (hn : n ≤ 400) (hy : ∀ i, y i < 256) (hF : G.1 (V + 6) = some (aI 7 F)) (hQ : ∀ (j p2 : Nat) (dp2 fa2 we2 sh2 so2 : Int32), fa2 = (uEnd n UU).1.2 → (fa2 = -1 → UU.2.1.1 = nI j ∧ j ≤ 12 ∧ (∀ T k9, FOK T k9 F io hm_ → we2 = we0 + nI (tlX UU.2.1 T k9 j 0) ∧ sh2 = sh0 + nI (tlX UU.2.1 T k9 j 1) ∧ so2 = so0 + nI (tlX UU.2.1 T k9 j 2))) → Q (.inl (some (.int (nI j)))) (gs G V (mO V th hi ac tp ba (nI n) (nI (p2)) (fa2) (dp2) io hm_ (we2) (sh2) (so2)))) : ∀ (k i p : Nat) (u : US) (we sh so : Int32), i + k = 13 → i ≤ 12 → p ≤ n → u.1 = (skp y n p, -1) → LI n i u → (∀ q, i = q + 1 → u.2.1.2.2.2.1 i = nI u.2.1.2.2.2.2.2) → u.2.1.2.2.2.2.2 ≤ skp y n p → (∀ T k9, FOK T k9 F io hm_ → we = we0 + nI (tlX u.2.1 T k9 i 0) ∧ sh = sh0 + nI (tlX u.2.1 T k9 i 1) ∧ so = so0 + nI (tlX u.2.1 T k9 i 2)) → uGo y n k i u = UU → Wp E 55 0 0 kX8_read Q (gs G V (mO V th hi ac tp ba (nI n) (nI (p)) (-1) (nI 0) io hm_ (we) (sh) (so))) (0, 0) 23 [.ref V, .int (nI 1), .int (nI 1), .int (nI i)] [] := by
  intro k
  induction k with
  | zero => intro i p u we sh so h1 h2; exact absurd h1 (by omega)
  | succ k ih =>
    intro i p u we sh so hik hi hp hu hLi hbi hX htl hU
    have hs1 := (skp_le (y := y) hp).2
    have u1 : u.1.1 = skp y n p := by rw [hu]
    have u2 : u.1.2 = -1 := by rw [hu]
    rw [uGo] at hU
    refine w_iload_n dX8_read_23 rfl ?_
    refine w_ifN_eq (tgt := 144) dX8_read_24 (by decide) (fun c_24 => ?_) (fun c_24 => ?_)
    · skip
      exact absurd c_24 (by decide)
    · skip
      refine w_aload_n dX8_read_27 rfl ?_
      refine w_getf dX8_read_28 fl_X8_25 (by first | assumption | exact gs_at | (rw [gs_ne (by omega)]; (first | assumption | exact gs_at | (rw [gs_ne (by omega)]; (first | assumption | exact gs_at | (rw [gs_ne (by omega)]; (first | assumption | exact gs_at | (rw [gs_ne (by omega)]; (first | assumption | exact gs_at))))))))) rfl ?_
      refine w_iconst (v := (-1)) dX8_read_31 (by decide) ?_
      refine w_icmp_ne (tgt := 144) dX8_read_32 (by decide) (fun c_32 => ?_) (fun c_32 => ?_)
      · skip
        exact absurd rfl c_32
      · skip
        refine w_aload_n dX8_read_35 rfl ?_
        refine wV0n dX8_read_36 lk_X8_66 rfl (by first | assumption | exact gs_at | (rw [gs_ne (by omega)]; (first | assumption | exact gs_at | (rw [gs_ne (by omega)]; (first | assumption | exact gs_at | (rw [gs_ne (by omega)]; (first | assumption | exact gs_at | (rw [gs_ne (by omega)]; (first | assumption | exact gs_at))))))))) rfl rfl (m_skip gs_at hT.gs hn hy hp) (Nat.le_of_ble_eq_true rfl) (Nat.le_of_ble_eq_true rfl) (Nat.le_of_ble_eq_true rfl) (Nat.le_of_ble_eq_true rfl) ?_
        rw [gs_gs]
        refine w_iload_n dX8_read_39 rfl ?_
        refine w_iload_n dX8_read_40 rfl ?_
        refine w_ifN_eq (tgt := 49) dX8_read_41 (by decide) (fun c_41 => ?_) (fun c_41 => ?_)
        · skip
          exact absurd c_41 (by decide)
        · skip
          refine w_bipush (v := nI 12) dX8_read_44 (by decide) ?_
          refine w_goto (tgt := 51) dX8_read_46 (by decide) ?_
          refine w_icmp_ne (tgt := 65) dX8_read_51 (by decide) (fun c_51 => ?_) (fun c_51 => ?_)
          · skip
            have hi12 : ¬ i = 12 := fun h => c_51 (by rw [h])
            refine w_iload_n dX8_read_65 rfl ?_
            refine w_ifN_eq (tgt := 76) dX8_read_66 (by decide) (fun c_66 => ?_) (fun c_66 => ?_)
            · skip
              exact absurd c_66 (by decide)
            · skip
              refine w_aload_n dX8_read_69 rfl ?_
              refine wV0d dX8_read_70 lk_X8_135 rfl (by first | assumption | exact gs_at | (rw [gs_ne (by omega)]; (first | assumption | exact gs_at | (rw [gs_ne (by omega)]; (first | assumption | exact gs_at | (rw [gs_ne (by omega)]; (first | assumption | exact gs_at | (rw [gs_ne (by omega)]; (first | assumption | exact gs_at))))))))) rfl rfl (m_lawLine (p := skp y n p) (i := i) (u := u) (F := F) gs_at hT.gs hn hy hs1 ((gs_ne (by omega)).trans hF) (by rw [skp_skp hn]; exact hu) (by rw [skp_skp hn]; exact hX)) (Nat.le_of_ble_eq_true rfl) (Nat.le_of_ble_eq_true rfl) (Nat.le_of_ble_eq_true rfl) (Nat.le_of_ble_eq_true rfl) (fun G_70 h_70 => ?_)
              obtain ⟨p2, dp2, fa2, we2, sh2, so2, e1, hp2, hc⟩ := h_70
              rw [gs_gs] at e1
              subst e1
              refine w_goto (tgt := 80) dX8_read_73 (by decide) ?_
              have eS : uStep y n i u = uLine y n i u := by unfold uStep; rw [if_neg hi12]
              rw [eS] at hU
              rcases hc with ⟨f1, f2⟩ | ⟨f1, f2, f3, f4⟩ | ⟨f1, f2, f3, f4, ab, m, cs, q1, q2, q3, q4, q5⟩
              · rw [if_neg (by rw [f2]; exact f1)] at hU
                subst hU
                refine ml_rd80F gs_at hT.gs hn hy (by omega) f1 (fun p3 => ?_)
                rw [gs_gs]
                exact hQ (i + 1) p3 dp2 fa2 we2 sh2 so2 (by rw [uEnd_bad (by rw [f2]; exact f1), f2]) (fun h => absurd h f1)
              · subst f1
                have h41 := (sign_eq hn (by decide)).mp f4
                have hnb : ¬ nI (skp y n p2) = -1 := nI_nm1 (by omega)
                rw [if_neg (by rw [f3]; exact hnb)] at hU
                subst hU
                refine ml_rd80 gs_at hT.gs hn hy f2 (fun h => absurd rfl h) (fun _ h => by omega) (fun _ _ h => by omega) (fun _ _ _ => ?_)
                rw [gs_gs]
                exact hQ (i + 1) _ dp2 _ we2 sh2 so2 (by rw [uEnd_bad (by rw [f3]; exact hnb), f3]) (fun h => absurd h hnb)
              · subst f1
                subst f2
                have hs2 := (skp_le (y := y) f3).2
                have w1 : (uLine y n i u).1.1 = skp y n p2 := by rw [f4]
                have w2 : (uLine y n i u).1.2 = -1 := by rw [f4]
                have hL2 := hLi.line hn w2
                have hu0 : u.2.1.2.2.2.2.2 ≤ 400 := hLi.2.2.1
                have hcs : u.2.1.2.2.2.2.2 + cs.length ≤ 400 := by omega
                have hus := apX_u cs (begX u.2.1 i (nI ab) (nI m)) hcs
                have hus : (uLine y n i u).2.1.2.2.2.2.2 = u.2.1.2.2.2.2.2 + cs.length := by rw [q3]; exact hus
                have hb2 : (uLine y n i u).2.1.2.2.2.1 (i + 1) = nI (uLine y n i u).2.1.2.2.2.2.2 := by rw [q3]; exact upd_at
                have htl2 : (∀ T k9, FOK T k9 F io hm_ → we2 = we0 + nI (tlX (uLine y n i u).2.1 T k9 (i + 1) 0) ∧ sh2 = sh0 + nI (tlX (uLine y n i u).2.1 T k9 (i + 1) 1) ∧ so2 = so0 + nI (tlX (uLine y n i u).2.1 T k9 (i + 1) 2)) := by
                  intro T k9 hf
                  have hv := tlX_line (T := T) (k := k9) (by omega) hLi q3 q1 q2 hcs hbi
                  obtain ⟨v1, v2, v3⟩ := q5 T k9 hf
                  obtain ⟨o1, o2, o3⟩ := htl T k9 hf
                  refine ⟨?_, ?_, ?_⟩
                  · rw [v1, o1, Int32.add_assoc, nI_add, hv 0 (by decide)]
                  · rw [v2, o2, Int32.add_assoc, nI_add, hv 1 (by decide)]
                  · rw [v3, o3, Int32.add_assoc, nI_add, hv 2 (by decide)]
                rw [if_pos w2] at hU
                refine ml_rd80 gs_at hT.gs hn hy f3 (fun h => absurd rfl h) (fun _ h => ?_) (fun _ h1 h2 => ?_) (fun _ h1 h2 => ?_)
                · rw [if_neg (fun h9 => by have h8 := ((sign_eq hn (by decide)).mp h9).1; omega)] at hU
                  subst hU
                  rw [gs_gs]
                  exact hQ (i + 1) _ _ _ we2 sh2 so2 (by rw [uEnd_at (by omega)]; exact w2.symm) (fun _ => ⟨hL2.2.1, by omega, htl2⟩)
                · have h59 : atB y n (uLine y n i u).1.1 [59] = true := (sign_eq hn (by decide)).mpr (by rw [w1]; exact ⟨h1, h2⟩)
                  rw [if_pos h59] at hU
                  have htk := sign_tok h59
                  rw [w1] at htk
                  have ex : skp y n (skp y n p2 + 1) = nxt y n (uLine y n i u).1.1 := by rw [w1, ← htk]; rfl
                  have hnx := nx_ge (y := y) (n := n) (p := (uLine y n i u).1.1) (by omega)
                  rw [gs_gs]
                  refine ih (i + 1) (skp y n p2 + 1) (tkU y n (uLine y n i u)) we2 sh2 so2 (by omega) (by omega) (by omega) (by rw [ex]; exact Prod.ext rfl w2) ⟨nxt_le (by omega), hL2.2⟩ (fun q hq => hb2) (by rw [ex]; show (uLine y n i u).2.1.2.2.2.2.2 ≤ _; omega) htl2 hU
                · rw [if_neg (fun h9 => h2 (by have h8 := ((sign_eq hn (by decide)).mp h9).2; rw [w1] at h8; exact h8))] at hU
                  subst hU
                  rw [gs_gs]
                  have hnb : ¬ nI (skp y n p2) = -1 := nI_nm1 (by omega)
                  exact hQ (i + 1) _ _ _ we2 sh2 so2 (by rw [uEnd_no (by omega) w2, w1]) (fun h => absurd h hnb)
          · skip
            rw [nI_eq (by omega) (by omega)] at c_51
            subst c_51
            refine w_aload_n dX8_read_54 rfl ?_
            refine w_aload_n dX8_read_55 rfl ?_
            refine w_getf dX8_read_56 fl_X8_56 (by first | assumption | exact gs_at | (rw [gs_ne (by omega)]; (first | assumption | exact gs_at | (rw [gs_ne (by omega)]; (first | assumption | exact gs_at | (rw [gs_ne (by omega)]; (first | assumption | exact gs_at | (rw [gs_ne (by omega)]; (first | assumption | exact gs_at))))))))) rfl ?_
            refine wV1n dX8_read_59 lk_X8_82 rfl (by first | assumption | exact gs_at | (rw [gs_ne (by omega)]; (first | assumption | exact gs_at | (rw [gs_ne (by omega)]; (first | assumption | exact gs_at | (rw [gs_ne (by omega)]; (first | assumption | exact gs_at | (rw [gs_ne (by omega)]; (first | assumption | exact gs_at))))))))) rfl rfl (m_wrongF gs_at) (Nat.le_of_ble_eq_true rfl) (Nat.le_of_ble_eq_true rfl) (Nat.le_of_ble_eq_true rfl) (Nat.le_of_ble_eq_true rfl) ?_
            rw [gs_gs]
            refine w_goto (tgt := 80) dX8_read_62 (by decide) ?_
            have eS : (uStep y n 12 u).1.2 = nI (skp y n p) := by unfold uStep; rw [if_pos rfl, rfU_ok u2, u1]
            have hnb : ¬ nI (skp y n p) = -1 := nI_nm1 (by omega)
            rw [if_neg (by rw [eS]; exact hnb)] at hU
            subst hU
            refine ml_rd80F gs_at hT.gs hn hy (by omega) hnb (fun p3 => ?_)
            rw [gs_gs]
            exact hQ (12 + 1) p3 _ _ we sh so (by rw [uEnd_bad (by rw [eS]; exact hnb), eS]) (fun h => absurd h hnb)
