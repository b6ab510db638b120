/-! the model: a line of a deed, the deed -/
theorem cell_yes {y : Nat → Nat} {n f N h1 m1 p a b : Nat} {T : ST} (hN : h1 ≤ N) (hN2 : N < 2 ^ 20) (hm : m1 < 2 ^ 20) (e1 : numF y n p 0 h1 = some a) (e2 : numF y n (nxt y n p) 0 m1 = some b) : rdCell y n f N h1 m1 (p, -1) T = ((nxt y n (nxt y n p), -1), tu T f a b) := by
  have ha := numF_lt e1
  have hb := numF_lt e2
  unfold rdCell
  rw [(num_yes e1).1, (num_yes e1).2, (num_yes e2).1, (num_yes e2).2]
  congr 1
  unfold cellT
  rw [if_neg (nI_nlt (Nat.zero_le _) (by omega)), if_neg (Int32.not_le.mpr (nI_lt (show a < N by omega) (by omega))), nI_clamp (by omega), nOf_nI (by omega)]
theorem cell_n1 {y : Nat → Nat} {n f N h1 m1 p : Nat} {T : ST} (hp : p < 2 ^ 31) (e1 : numF y n p 0 h1 = none) : (rdCell y n f N h1 m1 (p, -1) T).1.2 = nI p := by
  unfold rdCell
  rw [num_no e1]
  exact num_w (nI_nm1 hp) rfl
theorem cell_n2 {y : Nat → Nat} {n f N h1 m1 p a : Nat} {T : ST} (e1 : numF y n p 0 h1 = some a) (e2 : numF y n (nxt y n p) 0 m1 = none) : (rdCell y n f N h1 m1 (p, -1) T).1.2 = nI (nxt y n p) := by
  unfold rdCell
  rw [(num_yes e1).1, num_no e2]
theorem DPost.cell {V n : Nat} {th hi ac tp ba dp io hm_ we sh so sd : Int32} {y : Nat → Nat} {mm : Nat → Int32} {G G1 : AH} {x : HC} {u : RS × ST} (h : DPost (gs G V x) V n th hi ac tp ba dp io hm_ we sh so y mm sd (u) G1) : DPost G V n th hi ac tp ba dp io hm_ we sh so y mm sd (u) G1 := by
  obtain ⟨p2, nn, h1, h2, h3, h4⟩ := h
  refine ⟨p2, nn, h1, ?_, h3, h4⟩
  rw [h2, gs_comm (a := V) (b := V + 1) (by omega), gs_gs]
theorem tell_post {V n : Nat} {th hi ac tp ba dp io hm_ we sh so sd : Int32} {y : Nat → Nat} {mm : Nat → Int32} {G G1 : AH} {T : ST} {c : HC} {f N h1 m1 fi ap b : Nat} (hG : G.1 (V + 1) = some (aI 750 mm)) (hn : n ≤ 400) (hb : b ≤ n) (hN : h1 ≤ N) (hN2 : N < 2 ^ 20) (hm1 : m1 < 2 ^ 20) (hMo : ∀ a d, a < h1 → d < m1 → MoR (upd mm (fi + ap * a) (nI d)) (tu T f a d) sd) (hix : ∀ a, a < h1 → fi + ap * a < 350 ∧ fi + ap * a ≠ 1 ∧ fi + ap * a ≠ 2)
    (h : (∃ a d, numF y n (skp y n (tokE y n b)) 0 h1 = some a ∧ a < h1 ∧ numF y n (nxt y n (skp y n (tokE y n b))) 0 m1 = some d ∧ d < m1 ∧ G1 = gs (gs (gs G V c) (V + 1) (aI 750 (upd mm (fi + ap * a) (nI d)))) V (mO V th hi ac tp ba (nI n) (nI (tokE y n (nxt y n (skp y n (tokE y n b))))) (-1) dp io hm_ we sh so)) ∨ (numF y n (skp y n (tokE y n b)) 0 h1 = none ∧ ∃ p2, p2 ≤ n ∧ G1 = gs (gs G V c) V (mO V th hi ac tp ba (nI n) (nI (p2)) (nI (skp y n (tokE y n b))) dp io hm_ we sh so)) ∨ (∃ a, numF y n (skp y n (tokE y n b)) 0 h1 = some a ∧ numF y n (nxt y n (skp y n (tokE y n b))) 0 m1 = none ∧ ∃ p2, p2 ≤ n ∧ G1 = gs (gs G V c) V (mO V th hi ac tp ba (nI n) (nI (p2)) (nI (nxt y n (skp y n (tokE y n b)))) dp io hm_ we sh so))) : DPost G V n th hi ac tp ba dp io hm_ we sh so y mm sd (rdCell y n f N h1 m1 (nxt y n b, -1) T) G1 := by
  have hb1 : nxt y n b ≤ n := nxt_le hb
  have hb2 : nxt y n (nxt y n b) ≤ n := nxt_le hb1
  rcases h with ⟨a, d, e1, ha, e2, hd, e3⟩ | ⟨e1, p2, hp2, e3⟩ | ⟨a, e1, e2, p2, hp2, e3⟩
  · have e := cell_yes (f := f) (T := T) hN hN2 hm1 e1 e2
    rw [e3, gs_comm (a := V) (b := V + 1) (by omega), gs_gs]
    have e9 : rdCell y n f N h1 m1 (nxt y n b, -1) T = ((nxt y n (nxt y n (nxt y n b)), -1), tu T f a d) := e
    obtain ⟨q1, q2, q3⟩ := hix a ha
    refine ⟨tokE y n (nxt y n (nxt y n b)), upd mm (fi + ap * a) (nI d), (tokE_le hb2).2, ?_, Keep.up q1 q2 q3, fun _ => ?_⟩
    · rw [e9]; rfl
    · rw [e9]; exact ⟨rfl, hMo a d ha hd⟩
  · rw [gs_gs] at e3
    rw [e3]
    exact DPost.bad hG hp2 (nI_nm1 (show nxt y n b < 2 ^ 31 by omega)) (cell_n1 (show nxt y n b < 2 ^ 31 by omega) e1)
  · rw [gs_gs] at e3
    rw [e3]
    exact DPost.bad hG hp2 (nI_nm1 (show nxt y n (nxt y n b) < 2 ^ 31 by omega)) (cell_n2 e1 e2)
theorem tells_post {V n : Nat} {th hi ac tp ba dp io hm_ we sh so sd : Int32} {y : Nat → Nat} {mm : Nat → Int32} {G G1 : AH} {T : ST} {c : HC} {k m1 fi b : Nat} {u : RS × ST} (hu : u = (sNum y n 0 m1 (nxt y n b, -1), tu T 12 k (nOf (vNum y n 0 m1 (nxt y n b, -1))))) (hG : G.1 (V + 1) = some (aI 750 mm)) (hn : n ≤ 400) (hb : b ≤ n) (hm1 : m1 < 2 ^ 20) (hMo : ∀ d, d < m1 → MoR (upd mm fi (nI d)) (tu T 12 k d) sd) (hix : fi < 350 ∧ fi ≠ 1 ∧ fi ≠ 2)
    (h : (∃ d, numF y n (skp y n (tokE y n b)) 0 m1 = some d ∧ d < m1 ∧ G1 = gs (gs (gs G V c) (V + 1) (aI 750 (upd mm fi (nI d)))) V (mO V th hi ac tp ba (nI n) (nI (tokE y n (skp y n (tokE y n b)))) (-1) dp io hm_ we sh so)) ∨ (numF y n (skp y n (tokE y n b)) 0 m1 = none ∧ ∃ p2, p2 ≤ n ∧ G1 = gs (gs G V c) V (mO V th hi ac tp ba (nI n) (nI (p2)) (nI (skp y n (tokE y n b))) dp io hm_ we sh so))) : DPost G V n th hi ac tp ba dp io hm_ we sh so y mm sd (u) G1 := by
  have hb1 : nxt y n b ≤ n := nxt_le hb
  subst hu
  rcases h with ⟨d, e1, hd, e3⟩ | ⟨e1, p2, hp2, e3⟩
  · have e1 : numF y n (nxt y n b) 0 m1 = some d := e1
    rw [e3, gs_comm (a := V) (b := V + 1) (by omega), gs_gs, (num_yes e1).1, (num_yes e1).2, nOf_nI (by omega)]
    exact ⟨tokE y n (nxt y n b), _, (tokE_le hb1).2, rfl, Keep.up hix.1 hix.2.1 hix.2.2, fun _ => ⟨rfl, hMo d hd⟩⟩
  · have e1 : numF y n (nxt y n b) 0 m1 = none := e1
    rw [gs_gs] at e3
    rw [e3]
    exact DPost.bad hG hp2 (nI_nm1 (show nxt y n b < 2 ^ 31 by omega)) (by rw [num_no e1]; first | done | rfl)
theorem m_deedLine {E : EV} {V n p : Nat} {th hi ac tp ba dp io hm_ we sh so sd : Int32} {y : Nat → Nat} {mm : Nat → Int32} {T : ST} {G : AH} (hV : G.1 V = some (mO V th hi ac tp ba (nI n) (nI (p)) (-1) dp io hm_ we sh so)) (hT : TxP G V ba y n) (hn : n ≤ 400) (hy : ∀ i, y i < 256) (hp : p ≤ n) (hm : G.1 (V + 1) = some (aI 750 mm)) (hR : MoR mm T sd) (hB : Bd T) : Cd E 10 kX8_deedLine [.ref V] G (fun G1 => DPost G V n th hi ac tp ba dp io hm_ we sh so y mm sd (rdLine y n (skp y n p, -1) T) G1) := by
  have hb0 : skp y n p ≤ n := (skp_le (y := y) hp).2
  have h12 := hB.1
  have r3 := hR.2.1
  obtain ⟨b, hb⟩ : ∃ b, b = skp y n p := ⟨_, rfl⟩
  have hbb : skp y n b = b := by rw [hb]; exact skp_skp hn
  rw [← hb] at hb0 ⊢
  have hmV : ∀ x, (gs G V x).1 (V + 1) = some (aI 750 mm) := fun x => (gs_ne (by omega)).trans hm
  have htb := (tokE_le (y := y) hb0).2
  refine Ct.intro rfl (by decide) [.ref V, .float 0] (by simp [Value.category]) (Nat.le_of_ble_eq_true rfl) rfl ?_
  refine w_aload_n dX8_deedLine_0 rfl ?_
  refine wV0i dX8_deedLine_1 lk_X8_79 rfl (by first | assumption | exact gs_at | (rw [gs_ne (by omega)]; (first | assumption | exact gs_at | (rw [gs_ne (by omega)]; (first | assumption | exact gs_at | (rw [gs_ne (by omega)]; (first | assumption | exact gs_at | (rw [gs_ne (by omega)]; (first | assumption | exact gs_at))))))))) rfl rfl (m_place hV hT hn hy hp) (Nat.le_of_ble_eq_true rfl) (Nat.le_of_ble_eq_true rfl) (Nat.le_of_ble_eq_true rfl) (Nat.le_of_ble_eq_true rfl) (fun r_1 G1 h_1 => ?_)
  obtain ⟨e1, e2⟩ := h_1
  rw [← hb] at e1 e2
  subst e1; subst e2
  refine w_istore_1 dX8_deedLine_4 rfl ?_
  refine w_aload_n dX8_deedLine_5 rfl ?_
  refine w_ldcS (i := 49) rfl rfl dX8_deedLine_6 ?_
  refine wV1i dX8_deedLine_8 lk_X8_86 rfl (by first | assumption | exact gs_at | (rw [gs_ne (by omega)]; (first | assumption | exact gs_at | (rw [gs_ne (by omega)]; (first | assumption | exact gs_at | (rw [gs_ne (by omega)]; (first | assumption | exact gs_at | (rw [gs_ne (by omega)]; (first | assumption | exact gs_at))))))))) rfl rfl (m_has (ws := [105, 116, 101, 109]) rfl rfl (by decide) (by decide) (by decide) (by decide) gs_at hT.gs hn hy hb0) (Nat.le_of_ble_eq_true rfl) (Nat.le_of_ble_eq_true rfl) (Nat.le_of_ble_eq_true rfl) (Nat.le_of_ble_eq_true rfl) (fun r9 G1 h => ?_)
  obtain ⟨k2, k3⟩ := h
  rw [hbb, gs_gs] at k3
  rw [hbb] at k2
  subst k2
  by_cases w0 : atB y n b [105, 116, 101, 109] = true
  · rw [if_pos w0] at k3
    subst k3
    rw [b2, if_pos w0]
    refine w_ifN_eq (tgt := 22) dX8_deedLine_11 (by decide) (fun c_11 => ?_) (fun c_11 => ?_)
    · skip
      exact absurd c_11 (by decide)
    · skip
      refine w_aload_n dX8_deedLine_14 rfl ?_
      refine w_iload_n dX8_deedLine_15 rfl ?_
      refine wV1d dX8_deedLine_16 lk_X8_109 rfl (by first | assumption | exact gs_at | (rw [gs_ne (by omega)]; (first | assumption | exact gs_at | (rw [gs_ne (by omega)]; (first | assumption | exact gs_at | (rw [gs_ne (by omega)]; (first | assumption | exact gs_at | (rw [gs_ne (by omega)]; (first | assumption | exact gs_at))))))))) rfl rfl (m_itemLine (b := b) gs_at hT.gs hn hy hb0 (hmV _) hR hB w0) (Nat.le_of_ble_eq_true rfl) (Nat.le_of_ble_eq_true rfl) (Nat.le_of_ble_eq_true rfl) (Nat.le_of_ble_eq_true rfl) (fun G2 h9 => ?_)
      refine w_goto (tgt := 165) dX8_deedLine_19 (by decide) ?_
      refine w_vret dX8_deedLine_165 rfl (Nat.le_of_ble_eq_true rfl) (Nat.le_of_ble_eq_true rfl) ?_
      refine ⟨rfl, ?_⟩
      rw [rdLine, if_pos w0]
      exact h9.cell
  · rw [if_neg w0] at k3
    subst k3
    rw [b2, if_neg w0]
    refine w_ifN_eq (tgt := 22) dX8_deedLine_11 (by decide) (fun c_11 => ?_) (fun c_11 => absurd rfl c_11)
    skip
    refine w_aload_n dX8_deedLine_22 rfl ?_
    refine w_ldcS (i := 59) rfl rfl dX8_deedLine_23 ?_
    refine wV1i dX8_deedLine_25 lk_X8_86 rfl (by first | assumption | exact gs_at | (rw [gs_ne (by omega)]; (first | assumption | exact gs_at | (rw [gs_ne (by omega)]; (first | assumption | exact gs_at | (rw [gs_ne (by omega)]; (first | assumption | exact gs_at | (rw [gs_ne (by omega)]; (first | assumption | exact gs_at))))))))) rfl rfl (m_has (ws := [104, 97, 110, 100, 115]) rfl rfl (by decide) (by decide) (by decide) (by decide) gs_at hT.gs hn hy hb0) (Nat.le_of_ble_eq_true rfl) (Nat.le_of_ble_eq_true rfl) (Nat.le_of_ble_eq_true rfl) (Nat.le_of_ble_eq_true rfl) (fun r9 G1 h => ?_)
    obtain ⟨k2, k3⟩ := h
    rw [hbb, gs_gs] at k3
    rw [hbb] at k2
    subst k2
    by_cases w1 : atB y n b [104, 97, 110, 100, 115] = true
    · rw [if_pos w1] at k3
      subst k3
      rw [b2, if_pos w1]
      refine w_ifN_eq (tgt := 44) dX8_deedLine_28 (by decide) (fun c_28 => ?_) (fun c_28 => ?_)
      · skip
        exact absurd c_28 (by decide)
      · skip
        refine w_aload_n dX8_deedLine_31 rfl ?_
        refine w_bipush (v := nI 7) dX8_deedLine_32 (by decide) ?_
        refine w_iconst (v := nI 1) dX8_deedLine_34 (by decide) ?_
        refine w_iconst (v := nI 1) dX8_deedLine_35 (by decide) ?_
        refine w_bipush (v := nI 20) dX8_deedLine_36 (by decide) ?_
        refine wV4d dX8_deedLine_38 lk_X8_114 rfl (by first | assumption | exact gs_at | (rw [gs_ne (by omega)]; (first | assumption | exact gs_at | (rw [gs_ne (by omega)]; (first | assumption | exact gs_at | (rw [gs_ne (by omega)]; (first | assumption | exact gs_at | (rw [gs_ne (by omega)]; (first | assumption | exact gs_at))))))))) rfl rfl (m_tellsAt (fi := 7) (ap := 1) (h1 := 2) (m1 := 21) gs_at hT.gs hn hy htb (hmV _) (by omega) (by decide) rfl rfl (fun a ha => by omega)) (Nat.le_of_ble_eq_true rfl) (Nat.le_of_ble_eq_true rfl) (Nat.le_of_ble_eq_true rfl) (Nat.le_of_ble_eq_true rfl) (fun G2 h9 => ?_)
        refine w_goto (tgt := 165) dX8_deedLine_41 (by decide) ?_
        refine w_vret dX8_deedLine_165 rfl (Nat.le_of_ble_eq_true rfl) (Nat.le_of_ble_eq_true rfl) ?_
        refine ⟨rfl, ?_⟩
        rw [rdLine, if_neg w0, if_pos w1]
        exact tell_post hm hn hb0 (by decide) (by decide) (by decide) (fun a d h1 h2 => by rw [Nat.one_mul]; exact hR.p9 h1) (fun a h => by omega) h9
    · rw [if_neg w1] at k3
      subst k3
      rw [b2, if_neg w1]
      refine w_ifN_eq (tgt := 44) dX8_deedLine_28 (by decide) (fun c_28 => ?_) (fun c_28 => absurd rfl c_28)
      skip
      refine w_aload_n dX8_deedLine_44 rfl ?_
      refine w_ldcS (i := 44) rfl rfl dX8_deedLine_45 ?_
      refine wV1i dX8_deedLine_47 lk_X8_86 rfl (by first | assumption | exact gs_at | (rw [gs_ne (by omega)]; (first | assumption | exact gs_at | (rw [gs_ne (by omega)]; (first | assumption | exact gs_at | (rw [gs_ne (by omega)]; (first | assumption | exact gs_at | (rw [gs_ne (by omega)]; (first | assumption | exact gs_at))))))))) rfl rfl (m_has (ws := [115, 111, 105, 108]) rfl rfl (by decide) (by decide) (by decide) (by decide) gs_at hT.gs hn hy hb0) (Nat.le_of_ble_eq_true rfl) (Nat.le_of_ble_eq_true rfl) (Nat.le_of_ble_eq_true rfl) (Nat.le_of_ble_eq_true rfl) (fun r9 G1 h => ?_)
      obtain ⟨k2, k3⟩ := h
      rw [hbb, gs_gs] at k3
      rw [hbb] at k2
      subst k2
      by_cases w2 : atB y n b [115, 111, 105, 108] = true
      · rw [if_pos w2] at k3
        subst k3
        rw [b2, if_pos w2]
        refine w_ifN_eq (tgt := 66) dX8_deedLine_50 (by decide) (fun c_50 => ?_) (fun c_50 => ?_)
        · skip
          exact absurd c_50 (by decide)
        · skip
          refine w_aload_n dX8_deedLine_53 rfl ?_
          refine w_bipush (v := nI 14) dX8_deedLine_54 (by decide) ?_
          refine w_iconst (v := nI 1) dX8_deedLine_56 (by decide) ?_
          refine w_iconst (v := nI 5) dX8_deedLine_57 (by decide) ?_
          refine w_bipush (v := nI 99) dX8_deedLine_58 (by decide) ?_
          refine wV4d dX8_deedLine_60 lk_X8_114 rfl (by first | assumption | exact gs_at | (rw [gs_ne (by omega)]; (first | assumption | exact gs_at | (rw [gs_ne (by omega)]; (first | assumption | exact gs_at | (rw [gs_ne (by omega)]; (first | assumption | exact gs_at | (rw [gs_ne (by omega)]; (first | assumption | exact gs_at))))))))) rfl rfl (m_tellsAt (fi := 14) (ap := 1) (h1 := 6) (m1 := 100) gs_at hT.gs hn hy htb (hmV _) (by omega) (by decide) rfl rfl (fun a ha => by omega)) (Nat.le_of_ble_eq_true rfl) (Nat.le_of_ble_eq_true rfl) (Nat.le_of_ble_eq_true rfl) (Nat.le_of_ble_eq_true rfl) (fun G2 h9 => ?_)
          refine w_goto (tgt := 165) dX8_deedLine_63 (by decide) ?_
          refine w_vret dX8_deedLine_165 rfl (Nat.le_of_ble_eq_true rfl) (Nat.le_of_ble_eq_true rfl) ?_
          refine ⟨rfl, ?_⟩
          rw [rdLine, if_neg w0, if_neg w1, if_pos w2]
          exact tell_post hm hn hb0 (by decide) (by decide) (by decide) (fun a d h1 h2 => by rw [Nat.one_mul]; exact hR.p7 h1) (fun a h => by omega) h9
      · rw [if_neg w2] at k3
        subst k3
        rw [b2, if_neg w2]
        refine w_ifN_eq (tgt := 66) dX8_deedLine_50 (by decide) (fun c_50 => ?_) (fun c_50 => absurd rfl c_50)
        skip
        refine w_aload_n dX8_deedLine_66 rfl ?_
        refine w_ldcS (i := 60) rfl rfl dX8_deedLine_67 ?_
        refine wV1i dX8_deedLine_69 lk_X8_86 rfl (by first | assumption | exact gs_at | (rw [gs_ne (by omega)]; (first | assumption | exact gs_at | (rw [gs_ne (by omega)]; (first | assumption | exact gs_at | (rw [gs_ne (by omega)]; (first | assumption | exact gs_at | (rw [gs_ne (by omega)]; (first | assumption | exact gs_at))))))))) rfl rfl (m_has (ws := [112, 108, 97, 99, 101, 115]) rfl rfl (by decide) (by decide) (by decide) (by decide) gs_at hT.gs hn hy hb0) (Nat.le_of_ble_eq_true rfl) (Nat.le_of_ble_eq_true rfl) (Nat.le_of_ble_eq_true rfl) (Nat.le_of_ble_eq_true rfl) (fun r9 G1 h => ?_)
        obtain ⟨k2, k3⟩ := h
        rw [hbb, gs_gs] at k3
        rw [hbb] at k2
        subst k2
        by_cases w3 : atB y n b [112, 108, 97, 99, 101, 115] = true
        · rw [if_pos w3] at k3
          subst k3
          rw [b2, if_pos w3]
          refine w_ifN_eq (tgt := 88) dX8_deedLine_72 (by decide) (fun c_72 => ?_) (fun c_72 => ?_)
          · skip
            exact absurd c_72 (by decide)
          · skip
            refine w_aload_n dX8_deedLine_75 rfl ?_
            refine w_bipush (v := nI 20) dX8_deedLine_76 (by decide) ?_
            refine w_iconst (v := nI 1) dX8_deedLine_78 (by decide) ?_
            refine w_iconst (v := nI 5) dX8_deedLine_79 (by decide) ?_
            refine w_bipush (v := nI 12) dX8_deedLine_80 (by decide) ?_
            refine wV4d dX8_deedLine_82 lk_X8_114 rfl (by first | assumption | exact gs_at | (rw [gs_ne (by omega)]; (first | assumption | exact gs_at | (rw [gs_ne (by omega)]; (first | assumption | exact gs_at | (rw [gs_ne (by omega)]; (first | assumption | exact gs_at | (rw [gs_ne (by omega)]; (first | assumption | exact gs_at))))))))) rfl rfl (m_tellsAt (fi := 20) (ap := 1) (h1 := 6) (m1 := 13) gs_at hT.gs hn hy htb (hmV _) (by omega) (by decide) rfl rfl (fun a ha => by omega)) (Nat.le_of_ble_eq_true rfl) (Nat.le_of_ble_eq_true rfl) (Nat.le_of_ble_eq_true rfl) (Nat.le_of_ble_eq_true rfl) (fun G2 h9 => ?_)
            refine w_goto (tgt := 165) dX8_deedLine_85 (by decide) ?_
            refine w_vret dX8_deedLine_165 rfl (Nat.le_of_ble_eq_true rfl) (Nat.le_of_ble_eq_true rfl) ?_
            refine ⟨rfl, ?_⟩
            rw [rdLine, if_neg w0, if_neg w1, if_neg w2, if_pos w3]
            exact tell_post hm hn hb0 (by decide) (by decide) (by decide) (fun a d h1 h2 => by rw [Nat.one_mul]; exact hR.p8 h1) (fun a h => by omega) h9
        · rw [if_neg w3] at k3
          subst k3
          rw [b2, if_neg w3]
          refine w_ifN_eq (tgt := 88) dX8_deedLine_72 (by decide) (fun c_72 => ?_) (fun c_72 => absurd rfl c_72)
          skip
          refine w_aload_n dX8_deedLine_88 rfl ?_
          refine w_ldcS (i := 61) rfl rfl dX8_deedLine_89 ?_
          refine wV1i dX8_deedLine_91 lk_X8_86 rfl (by first | assumption | exact gs_at | (rw [gs_ne (by omega)]; (first | assumption | exact gs_at | (rw [gs_ne (by omega)]; (first | assumption | exact gs_at | (rw [gs_ne (by omega)]; (first | assumption | exact gs_at | (rw [gs_ne (by omega)]; (first | assumption | exact gs_at))))))))) rfl rfl (m_has (ws := [115, 116, 111, 114, 109]) rfl rfl (by decide) (by decide) (by decide) (by decide) gs_at hT.gs hn hy hb0) (Nat.le_of_ble_eq_true rfl) (Nat.le_of_ble_eq_true rfl) (Nat.le_of_ble_eq_true rfl) (Nat.le_of_ble_eq_true rfl) (fun r9 G1 h => ?_)
          obtain ⟨k2, k3⟩ := h
          rw [hbb, gs_gs] at k3
          rw [hbb] at k2
          subst k2
          by_cases w4 : atB y n b [115, 116, 111, 114, 109] = true
          · rw [if_pos w4] at k3
            subst k3
            rw [b2, if_pos w4]
            refine w_ifN_eq (tgt := 107) dX8_deedLine_94 (by decide) (fun c_94 => ?_) (fun c_94 => ?_)
            · skip
              exact absurd c_94 (by decide)
            · skip
              refine w_aload_n dX8_deedLine_97 rfl ?_
              refine w_iconst (v := nI 5) dX8_deedLine_98 (by decide) ?_
              refine w_bipush (v := nI 100) dX8_deedLine_99 (by decide) ?_
              refine wV2d dX8_deedLine_101 lk_X8_124 rfl (by first | assumption | exact gs_at | (rw [gs_ne (by omega)]; (first | assumption | exact gs_at | (rw [gs_ne (by omega)]; (first | assumption | exact gs_at | (rw [gs_ne (by omega)]; (first | assumption | exact gs_at | (rw [gs_ne (by omega)]; (first | assumption | exact gs_at))))))))) rfl rfl (m_tells (fi := 5) (m1 := 101) gs_at hT.gs hn hy htb (hmV _) (by decide) rfl (by decide)) (Nat.le_of_ble_eq_true rfl) (Nat.le_of_ble_eq_true rfl) (Nat.le_of_ble_eq_true rfl) (Nat.le_of_ble_eq_true rfl) (fun G2 h9 => ?_)
              refine w_goto (tgt := 165) dX8_deedLine_104 (by decide) ?_
              refine w_vret dX8_deedLine_165 rfl (Nat.le_of_ble_eq_true rfl) (Nat.le_of_ble_eq_true rfl) ?_
              refine ⟨rfl, ?_⟩
              rw [rdLine, if_neg w0, if_neg w1, if_neg w2, if_neg w3, if_neg (fun h => by have h1 : tokE y n b = b + 4 := (atB_iff.mp h).1; have h2 : tokE y n b = b + 5 := (atB_iff.mp w4).1; omega), if_pos w4]
              exact tells_post rfl hm hn hb0 (by decide) (fun d h => hR.s2) (by decide) h9
          · rw [if_neg w4] at k3
            subst k3
            rw [b2, if_neg w4]
            refine w_ifN_eq (tgt := 107) dX8_deedLine_94 (by decide) (fun c_94 => ?_) (fun c_94 => absurd rfl c_94)
            skip
            refine w_aload_n dX8_deedLine_107 rfl ?_
            refine w_ldcS (i := 51) rfl rfl dX8_deedLine_108 ?_
            refine wV1i dX8_deedLine_110 lk_X8_86 rfl (by first | assumption | exact gs_at | (rw [gs_ne (by omega)]; (first | assumption | exact gs_at | (rw [gs_ne (by omega)]; (first | assumption | exact gs_at | (rw [gs_ne (by omega)]; (first | assumption | exact gs_at | (rw [gs_ne (by omega)]; (first | assumption | exact gs_at))))))))) rfl rfl (m_has (ws := [119, 111, 114, 110]) rfl rfl (by decide) (by decide) (by decide) (by decide) gs_at hT.gs hn hy hb0) (Nat.le_of_ble_eq_true rfl) (Nat.le_of_ble_eq_true rfl) (Nat.le_of_ble_eq_true rfl) (Nat.le_of_ble_eq_true rfl) (fun r9 G1 h => ?_)
            obtain ⟨k2, k3⟩ := h
            rw [hbb, gs_gs] at k3
            rw [hbb] at k2
            subst k2
            by_cases w5 : atB y n b [119, 111, 114, 110] = true
            · rw [if_pos w5] at k3
              subst k3
              rw [b2, if_pos w5]
              refine w_ifN_eq (tgt := 137) dX8_deedLine_113 (by decide) (fun c_113 => ?_) (fun c_113 => ?_)
              · skip
                exact absurd c_113 (by decide)
              · skip
                refine w_aload_n dX8_deedLine_116 rfl ?_
                refine w_bipush (v := nI 28) dX8_deedLine_117 (by decide) ?_
                refine w_bipush (v := nI 7) dX8_deedLine_119 (by decide) ?_
                refine w_aload_n dX8_deedLine_121 rfl ?_
                refine w_getf dX8_deedLine_122 fl_X8_7 (by first | assumption | exact gs_at | (rw [gs_ne (by omega)]; (first | assumption | exact gs_at | (rw [gs_ne (by omega)]; (first | assumption | exact gs_at | (rw [gs_ne (by omega)]; (first | assumption | exact gs_at | (rw [gs_ne (by omega)]; (first | assumption | exact gs_at))))))))) rfl ?_
                refine w_iconst (v := nI 3) dX8_deedLine_125 (by decide) ?_
                refine w_iaload dX8_deedLine_126 (by first | assumption | exact gs_at | (rw [gs_ne (by omega)]; (first | assumption | exact gs_at | (rw [gs_ne (by omega)]; (first | assumption | exact gs_at | (rw [gs_ne (by omega)]; (first | assumption | exact gs_at | (rw [gs_ne (by omega)]; (first | assumption | exact gs_at))))))))) (by first | assumption | exact vp_in_nI (by omega) (by omega) | exact vp_in_nI (by assumption) (by omega)) ?_
                rw [nI_clamp (by omega)]
                rw [r3]
                refine w_iconst (v := nI 1) dX8_deedLine_127 (by decide) ?_
                refine w_isub dX8_deedLine_128 ?_
                refine w_bipush (v := nI 99) dX8_deedLine_129 (by decide) ?_
                refine wV4d dX8_deedLine_131 lk_X8_114 rfl (by first | assumption | exact gs_at | (rw [gs_ne (by omega)]; (first | assumption | exact gs_at | (rw [gs_ne (by omega)]; (first | assumption | exact gs_at | (rw [gs_ne (by omega)]; (first | assumption | exact gs_at | (rw [gs_ne (by omega)]; (first | assumption | exact gs_at))))))))) rfl rfl (m_tellsAt (fi := 28) (ap := 7) (h1 := T 12 0) (m1 := 100) gs_at hT.gs hn hy htb (hmV _) (by omega) (by decide) rfl rfl (fun a ha => by omega)) (Nat.le_of_ble_eq_true rfl) (Nat.le_of_ble_eq_true rfl) (Nat.le_of_ble_eq_true rfl) (Nat.le_of_ble_eq_true rfl) (fun G2 h9 => ?_)
                refine w_goto (tgt := 165) dX8_deedLine_134 (by decide) ?_
                refine w_vret dX8_deedLine_165 rfl (Nat.le_of_ble_eq_true rfl) (Nat.le_of_ble_eq_true rfl) ?_
                refine ⟨rfl, ?_⟩
                rw [rdLine, if_neg w0, if_neg w1, if_neg w2, if_neg w3, if_pos w5]
                exact tell_post hm hn hb0 h12 (by decide) (by decide) (fun a d h1 h2 => by rw [show 28 + 7 * a = 26 + 7 * a + 2 by omega]; exact hR.pi (by omega) (by decide)) (fun a h => by omega) h9
            · rw [if_neg w5] at k3
              subst k3
              rw [b2, if_neg w5]
              refine w_ifN_eq (tgt := 137) dX8_deedLine_113 (by decide) (fun c_113 => ?_) (fun c_113 => absurd rfl c_113)
              skip
              refine w_aload_n dX8_deedLine_137 rfl ?_
              refine w_ldcS (i := 54) rfl rfl dX8_deedLine_138 ?_
              refine wV1i dX8_deedLine_140 lk_X8_86 rfl (by first | assumption | exact gs_at | (rw [gs_ne (by omega)]; (first | assumption | exact gs_at | (rw [gs_ne (by omega)]; (first | assumption | exact gs_at | (rw [gs_ne (by omega)]; (first | assumption | exact gs_at | (rw [gs_ne (by omega)]; (first | assumption | exact gs_at))))))))) rfl rfl (m_has (ws := [100, 97, 121]) rfl rfl (by decide) (by decide) (by decide) (by decide) gs_at hT.gs hn hy hb0) (Nat.le_of_ble_eq_true rfl) (Nat.le_of_ble_eq_true rfl) (Nat.le_of_ble_eq_true rfl) (Nat.le_of_ble_eq_true rfl) (fun r9 G1 h => ?_)
              obtain ⟨k2, k3⟩ := h
              rw [hbb, gs_gs] at k3
              rw [hbb] at k2
              subst k2
              by_cases w6 : atB y n b [100, 97, 121] = true
              · rw [if_pos w6] at k3
                subst k3
                rw [b2, if_pos w6]
                refine w_ifN_eq (tgt := 157) dX8_deedLine_143 (by decide) (fun c_143 => ?_) (fun c_143 => ?_)
                · skip
                  exact absurd c_143 (by decide)
                · skip
                  refine w_aload_n dX8_deedLine_146 rfl ?_
                  refine w_iconst (v := nI 4) dX8_deedLine_147 (by decide) ?_
                  refine w_sipush (v := nI 999) dX8_deedLine_148 (by decide) ?_
                  refine wV2d dX8_deedLine_151 lk_X8_124 rfl (by first | assumption | exact gs_at | (rw [gs_ne (by omega)]; (first | assumption | exact gs_at | (rw [gs_ne (by omega)]; (first | assumption | exact gs_at | (rw [gs_ne (by omega)]; (first | assumption | exact gs_at | (rw [gs_ne (by omega)]; (first | assumption | exact gs_at))))))))) rfl rfl (m_tells (fi := 4) (m1 := 1000) gs_at hT.gs hn hy htb (hmV _) (by decide) rfl (by decide)) (Nat.le_of_ble_eq_true rfl) (Nat.le_of_ble_eq_true rfl) (Nat.le_of_ble_eq_true rfl) (Nat.le_of_ble_eq_true rfl) (fun G2 h9 => ?_)
                  refine w_goto (tgt := 165) dX8_deedLine_154 (by decide) ?_
                  refine w_vret dX8_deedLine_165 rfl (Nat.le_of_ble_eq_true rfl) (Nat.le_of_ble_eq_true rfl) ?_
                  refine ⟨rfl, ?_⟩
                  rw [rdLine, if_neg w0, if_neg w1, if_neg w2, if_neg w3, if_neg w5, if_neg w4, if_pos w6]
                  exact tells_post rfl hm hn hb0 (by decide) (fun d h => hR.s3) (by decide) h9
              · rw [if_neg w6] at k3
                subst k3
                rw [b2, if_neg w6]
                refine w_ifN_eq (tgt := 157) dX8_deedLine_143 (by decide) (fun c_143 => ?_) (fun c_143 => ?_)
                · skip
                  refine w_aload_n dX8_deedLine_157 rfl ?_
                  refine w_aload_n dX8_deedLine_158 rfl ?_
                  refine w_getf dX8_deedLine_159 fl_X8_56 (by first | assumption | exact gs_at | (rw [gs_ne (by omega)]; (first | assumption | exact gs_at | (rw [gs_ne (by omega)]; (first | assumption | exact gs_at | (rw [gs_ne (by omega)]; (first | assumption | exact gs_at | (rw [gs_ne (by omega)]; (first | assumption | exact gs_at))))))))) rfl ?_
                  refine wV1n dX8_deedLine_162 lk_X8_82 rfl (by first | assumption | exact gs_at | (rw [gs_ne (by omega)]; (first | assumption | exact gs_at | (rw [gs_ne (by omega)]; (first | assumption | exact gs_at | (rw [gs_ne (by omega)]; (first | assumption | exact gs_at | (rw [gs_ne (by omega)]; (first | assumption | exact gs_at))))))))) rfl rfl (m_wrongF gs_at) (Nat.le_of_ble_eq_true rfl) (Nat.le_of_ble_eq_true rfl) (Nat.le_of_ble_eq_true rfl) (Nat.le_of_ble_eq_true rfl) ?_
                  rw [gs_gs]
                  refine w_vret dX8_deedLine_165 rfl (Nat.le_of_ble_eq_true rfl) (Nat.le_of_ble_eq_true rfl) ?_
                  refine ⟨rfl, ?_⟩
                  rw [rdLine, if_neg w0, if_neg w1, if_neg w2, if_neg w3, if_neg w5, if_neg w4, if_neg w6]
                  exact DPost.bad hm hb0 (nI_nm1 (show b < 2 ^ 31 by omega)) (if_pos rfl : (if (-1 : Int32) = -1 then nI b else -1) = nI b)
                · skip
                  exact absurd rfl c_143
