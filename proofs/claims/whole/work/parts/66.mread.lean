/-! the model: what is told in a deed -/
theorem num_no {y : Nat → Nat} {n lo hi p : Nat} (h : numF y n p lo hi = none) : sNum y n lo hi (p, -1) = (p, nI p) := by
  unfold sNum sRf refW
  rw [if_neg (by simp [h])]
  simp
theorem num_yes {y : Nat → Nat} {n lo hi p v : Nat} {w : Int32} (h : numF y n p lo hi = some v) : sNum y n lo hi (p, w) = (nxt y n p, w) ∧ vNum y n lo hi (p, w) = nI v := by
  unfold sNum vNum
  rw [if_pos (by simp [h]), h]
  exact ⟨rfl, rfl⟩
theorem num_st {y : Nat → Nat} {n lo hi : Nat} {s : RS} (h : ¬ s.2 = -1) : (sNum y n lo hi s).2 = s.2 := by
  unfold sNum sRf refW
  repeat' split
  all_goals first | rfl | (rename_i h9; exact absurd h9 h)
theorem nd_st {y : Nat → Nat} {n : Nat} {ws : List Nat} {s : RS} (h : ¬ s.2 = -1) : (sNd y n ws s).2 = s.2 := by
  unfold sNd sRf refW
  repeat' split
  all_goals first | rfl | (rename_i h9; exact absurd h9 h)
theorem nd_no {y : Nat → Nat} {n p : Nat} {ws : List Nat} (h : ¬ atB y n p ws = true) : sNd y n ws (p, -1) = (p, nI p) := by
  unfold sNd sRf refW
  rw [if_neg h]
  simp
theorem nd_yes {y : Nat → Nat} {n p : Nat} {ws : List Nat} {w : Int32} (h : atB y n p ws = true) : sNd y n ws (p, w) = (nxt y n p, w) := by
  unfold sNd
  rw [if_pos h]
theorem skp_nxt {y : Nat → Nat} {n p : Nat} : skp y n (tokE y n p) = nxt y n p := rfl
theorem txp_gm {G : AH} {V n : Nat} {y : Nat → Nat} {x : HC} (h : TxP G V (-1) y n) : TxP (gs G (V + 1) x) V (-1) y n := by
  rcases h with ⟨h1, h2⟩ | ⟨h1, -⟩
  · exact Or.inl ⟨h1, (gs_ne (by omega)).trans h2⟩
  · exact absurd h1 (by decide)
theorem m_afterF {E : EV} {V n p : Nat} {th hi ac tp ba fa dp io hm_ we sh so : Int32} {y : Nat → Nat} {G : AH} {i0 : Nat} {lo hi2 : Int32} (hV : G.1 V = some (mO V th hi ac tp ba (nI n) (nI (p)) (fa) dp io hm_ we sh so)) (hf : ¬ fa = -1) : Cu E 8 kX8_after [.ref V, .ref (eK E i0), .int lo, .int hi2] G (.int (nI 0)) G := by
  refine Ct.intro rfl (by decide) [.ref V, .ref (eK E i0), .int lo, .int hi2] (by simp [Value.category]) (Nat.le_of_ble_eq_true rfl) rfl ?_
  refine w_aload_n dX8_after_0 rfl ?_
  refine w_getf dX8_after_1 fl_X8_25 (by first | assumption | exact gs_at | (rw [gs_ne (by omega)]; (first | assumption | exact gs_at | (rw [gs_ne (by omega)]; (first | assumption | exact gs_at | (rw [gs_ne (by omega)]; (first | assumption | exact gs_at | (rw [gs_ne (by omega)]; (first | assumption | exact gs_at))))))))) rfl ?_
  refine w_iconst (v := (-1)) dX8_after_4 (by decide) ?_
  refine w_icmp_ne (tgt := 24) dX8_after_5 (by decide) (fun c_5 => ?_) (fun c_5 => ?_)
  · skip
    refine w_aload_n dX8_after_24 rfl ?_
    refine w_iload_n dX8_after_25 rfl ?_
    refine w_iload_n dX8_after_26 rfl ?_
    refine wV2u dX8_after_27 lk_X8_90 rfl (by first | assumption | exact gs_at | (rw [gs_ne (by omega)]; (first | assumption | exact gs_at | (rw [gs_ne (by omega)]; (first | assumption | exact gs_at | (rw [gs_ne (by omega)]; (first | assumption | exact gs_at | (rw [gs_ne (by omega)]; (first | assumption | exact gs_at))))))))) rfl rfl (m_figF (y := y) hV hf) (Nat.le_of_ble_eq_true rfl) (Nat.le_of_ble_eq_true rfl) (Nat.le_of_ble_eq_true rfl) (Nat.le_of_ble_eq_true rfl) ?_
    refine w_iret dX8_after_30 rfl (Nat.le_of_ble_eq_true rfl) (Nat.le_of_ble_eq_true rfl) ?_
    exact ⟨rfl, rfl⟩
  · skip
    exact absurd c_5 hf
theorem m_after {E : EV} {V n p : Nat} {th hi ac tp ba dp io hm_ we sh so : Int32} {y : Nat → Nat} {G : AH} {i0 : Nat} {q : String × Nat × String × List Int32} {ws : List Nat} (hi0 : strT[i0]? = some q) (hq : q.2.2.2 = ws.map nI) (hw : ∀ j, j < ws.length → ws.getD j 0 < 128) (hl : ws.length < 2 ^ 20) {lo h9 : Nat} {hi2 : Int32} (hV : G.1 V = some (mO V th hi ac tp ba (nI n) (nI (p)) (-1) dp io hm_ we sh so)) (hT : TxP G V ba y n) (hn : n ≤ 400) (hy : ∀ i, y i < 256) (hp : p ≤ n) (h0 : 0 < ws.length) (ha : ∀ j, j < ws.length → 97 ≤ ws.getD j 0 ∧ ws.getD j 0 ≤ 122) (hlo : lo < 2 ^ 20) (hh9 : h9 < 2 ^ 20) (hh : hi2 = nI h9 - nI 1) : Ci E 8 kX8_after [.ref V, .ref (eK E i0), .int (nI lo), .int hi2] G (fun r G1 => (¬ atB y n (skp y n p) ws = true ∧ r = nI 0 ∧ G1 = (gs G V (mO V th hi ac tp ba (nI n) (nI (skp y n p)) (nI (skp y n p)) dp io hm_ we sh so))) ∨ (atB y n (skp y n p) ws = true ∧ ((∃ v, numF y n (nxt y n (skp y n p)) lo h9 = some v ∧ r = nI v ∧ G1 = (gs G V (mO V th hi ac tp ba (nI n) (nI (tokE y n (nxt y n (skp y n p)))) (-1) dp io hm_ we sh so))) ∨ (numF y n (nxt y n (skp y n p)) lo h9 = none ∧ ∃ p2 v, p2 ≤ n ∧ r = nI v ∧ G1 = (gs G V (mO V th hi ac tp ba (nI n) (nI (p2)) (nI (nxt y n (skp y n p))) dp io hm_ we sh so)))))) := by
  have hs1 := (skp_le (y := y) hp).2
  have ht1 := (tokE_le (y := y) hs1).2
  refine Ct.intro rfl (by decide) [.ref V, .ref (eK E i0), .int (nI lo), .int hi2] (by simp [Value.category]) (Nat.le_of_ble_eq_true rfl) rfl ?_
  refine w_aload_n dX8_after_0 rfl ?_
  refine w_getf dX8_after_1 fl_X8_25 (by first | assumption | exact gs_at | (rw [gs_ne (by omega)]; (first | assumption | exact gs_at | (rw [gs_ne (by omega)]; (first | assumption | exact gs_at | (rw [gs_ne (by omega)]; (first | assumption | exact gs_at | (rw [gs_ne (by omega)]; (first | assumption | exact gs_at))))))))) rfl ?_
  refine w_iconst (v := (-1)) dX8_after_4 (by decide) ?_
  refine w_icmp_ne (tgt := 24) dX8_after_5 (by decide) (fun c_5 => ?_) (fun c_5 => ?_)
  · skip
    exact absurd rfl c_5
  · skip
    refine w_aload_n dX8_after_8 rfl ?_
    refine w_aload_n dX8_after_9 rfl ?_
    refine wV1i dX8_after_10 lk_X8_86 rfl (by first | assumption | exact gs_at | (rw [gs_ne (by omega)]; (first | assumption | exact gs_at | (rw [gs_ne (by omega)]; (first | assumption | exact gs_at | (rw [gs_ne (by omega)]; (first | assumption | exact gs_at | (rw [gs_ne (by omega)]; (first | assumption | exact gs_at))))))))) rfl rfl (m_has hi0 hq hw hl h0 ha hV hT hn hy hp) (Nat.le_of_ble_eq_true rfl) (Nat.le_of_ble_eq_true rfl) (Nat.le_of_ble_eq_true rfl) (Nat.le_of_ble_eq_true rfl) (fun r_10 G1 h_10 => ?_)
    obtain ⟨e1, e2⟩ := h_10
    subst e1
    by_cases hb : atB y n (skp y n p) ws = true
    · rw [if_pos hb] at e2
      subst e2
      have hTt := hT.gs (x := mO V th hi ac tp ba (nI n) (nI (tokE y n (skp y n p))) (-1) dp io hm_ we sh so)
      rw [b2, if_pos hb]
      refine w_ifN_ne (tgt := 24) dX8_after_13 (by decide) (fun c_13 => ?_) (fun c_13 => ?_)
      · skip
        refine w_aload_n dX8_after_24 rfl ?_
        refine w_iload_n dX8_after_25 rfl ?_
        refine w_iload_n dX8_after_26 rfl ?_
        refine wV2i dX8_after_27 lk_X8_90 rfl (by first | assumption | exact gs_at | (rw [gs_ne (by omega)]; (first | assumption | exact gs_at | (rw [gs_ne (by omega)]; (first | assumption | exact gs_at | (rw [gs_ne (by omega)]; (first | assumption | exact gs_at | (rw [gs_ne (by omega)]; (first | assumption | exact gs_at))))))))) rfl rfl (m_fig gs_at hTt hn hy ht1 hlo hh9 hh) (Nat.le_of_ble_eq_true rfl) (Nat.le_of_ble_eq_true rfl) (Nat.le_of_ble_eq_true rfl) (Nat.le_of_ble_eq_true rfl) (fun r_27 G2 h_27 => ?_)
        refine w_iret dX8_after_30 rfl (Nat.le_of_ble_eq_true rfl) (Nat.le_of_ble_eq_true rfl) ?_
        refine ⟨_, rfl, Or.inr ⟨hb, ?_⟩⟩
        rcases h_27 with ⟨v, e1, e2, e3⟩ | ⟨e1, p2, v, e2, e3, e4⟩
        · rw [gs_gs] at e3; exact Or.inl ⟨v, e1, e2, e3⟩
        · rw [gs_gs] at e4; exact Or.inr ⟨e1, p2, v, e2, e3, e4⟩
      · skip
        exact absurd c_13 (by decide)
    · rw [if_neg hb] at e2
      subst e2
      rw [b2, if_neg hb]
      refine w_ifN_ne (tgt := 24) dX8_after_13 (by decide) (fun c_13 => ?_) (fun c_13 => ?_)
      · skip
        exact absurd rfl c_13
      · skip
        refine w_aload_n dX8_after_16 rfl ?_
        refine w_aload_n dX8_after_17 rfl ?_
        refine w_getf dX8_after_18 fl_X8_56 (by first | assumption | exact gs_at | (rw [gs_ne (by omega)]; (first | assumption | exact gs_at | (rw [gs_ne (by omega)]; (first | assumption | exact gs_at | (rw [gs_ne (by omega)]; (first | assumption | exact gs_at | (rw [gs_ne (by omega)]; (first | assumption | exact gs_at))))))))) rfl ?_
        refine wV1n dX8_after_21 lk_X8_82 rfl (by first | assumption | exact gs_at | (rw [gs_ne (by omega)]; (first | assumption | exact gs_at | (rw [gs_ne (by omega)]; (first | assumption | exact gs_at | (rw [gs_ne (by omega)]; (first | assumption | exact gs_at | (rw [gs_ne (by omega)]; (first | assumption | exact gs_at))))))))) rfl rfl (m_wrongF gs_at) (Nat.le_of_ble_eq_true rfl) (Nat.le_of_ble_eq_true rfl) (Nat.le_of_ble_eq_true rfl) (Nat.le_of_ble_eq_true rfl) ?_
        rw [gs_gs]
        refine w_aload_n dX8_after_24 rfl ?_
        refine w_iload_n dX8_after_25 rfl ?_
        refine w_iload_n dX8_after_26 rfl ?_
        refine wV2u dX8_after_27 lk_X8_90 rfl (by first | assumption | exact gs_at | (rw [gs_ne (by omega)]; (first | assumption | exact gs_at | (rw [gs_ne (by omega)]; (first | assumption | exact gs_at | (rw [gs_ne (by omega)]; (first | assumption | exact gs_at | (rw [gs_ne (by omega)]; (first | assumption | exact gs_at))))))))) rfl rfl (m_figF (y := y) (fa := nI (skp y n p)) gs_at (nI_nm1 (by omega))) (Nat.le_of_ble_eq_true rfl) (Nat.le_of_ble_eq_true rfl) (Nat.le_of_ble_eq_true rfl) (Nat.le_of_ble_eq_true rfl) ?_
        refine w_iret dX8_after_30 rfl (Nat.le_of_ble_eq_true rfl) (Nat.le_of_ble_eq_true rfl) ?_
        exact ⟨_, rfl, Or.inl ⟨hb, rfl, rfl⟩⟩

theorem numF_lt {y : Nat → Nat} {n p lo hi v : Nat} (h : numF y n p lo hi = some v) : v < hi := by
  unfold numF at h
  split at h
  · rename_i h9; cases h; exact h9.2.2.2
  · cases h
theorem m_tellsAt {E : EV} {V n p : Nat} {th hi ac tp ba dp io hm_ we sh so : Int32} {y : Nat → Nat} {G : AH} {mm : Nat → Int32} {fi ap h1 m1 : Nat} {x z : Int32} (hV : G.1 V = some (mO V th hi ac tp ba (nI n) (nI (p)) (-1) dp io hm_ we sh so)) (hT : TxP G V ba y n) (hn : n ≤ 400) (hy : ∀ i, y i < 256) (hp : p ≤ n) (hm : G.1 (V + 1) = some (aI 750 mm)) (hh1 : h1 < 2 ^ 20) (hm1 : m1 < 2 ^ 20) (hx : x = nI h1 - nI 1) (hz : z = nI m1 - nI 1) (hix : ∀ a, a < h1 → fi + ap * a < 750) : Cd E 5 kX8_tellsAt [.ref V, .int (nI fi), .int (nI ap), .int x, .int z] G (fun G1 => (∃ a b, numF y n (skp y n p) 0 h1 = some a ∧ a < h1 ∧ numF y n (nxt y n (skp y n p)) 0 m1 = some b ∧ b < m1 ∧ G1 = (gs (gs G (V + 1) (aI 750 (upd mm (fi + ap * a) (nI b)))) V (mO V th hi ac tp ba (nI n) (nI (tokE y n (nxt y n (skp y n p)))) (-1) dp io hm_ we sh so))) ∨ (numF y n (skp y n p) 0 h1 = none ∧ ∃ p2, p2 ≤ n ∧ G1 = (gs G V (mO V th hi ac tp ba (nI n) (nI (p2)) (nI (skp y n p)) dp io hm_ we sh so))) ∨ (∃ a, numF y n (skp y n p) 0 h1 = some a ∧ numF y n (nxt y n (skp y n p)) 0 m1 = none ∧ ∃ p2, p2 ≤ n ∧ G1 = (gs G V (mO V th hi ac tp ba (nI n) (nI (p2)) (nI (nxt y n (skp y n p))) dp io hm_ we sh so)))) := by
  have hs1 := (skp_le (y := y) hp).2
  have ht1 := (tokE_le (y := y) hs1).2
  have hx1 := nxt_le (y := y) hs1
  refine Ct.intro rfl (by decide) [.ref V, .int (nI fi), .int (nI ap), .int x, .int z, .float 0, .float 0] (by simp [Value.category]) (Nat.le_of_ble_eq_true rfl) rfl ?_
  refine w_aload_n dX8_tellsAt_0 rfl ?_
  refine w_iconst (v := nI 0) dX8_tellsAt_1 (by decide) ?_
  refine w_iload_n dX8_tellsAt_2 rfl ?_
  refine wV2i dX8_tellsAt_3 lk_X8_90 rfl (by first | assumption | exact gs_at | (rw [gs_ne (by omega)]; (first | assumption | exact gs_at | (rw [gs_ne (by omega)]; (first | assumption | exact gs_at | (rw [gs_ne (by omega)]; (first | assumption | exact gs_at | (rw [gs_ne (by omega)]; (first | assumption | exact gs_at))))))))) rfl rfl (m_fig (lo := 0) hV hT hn hy hp (by decide) hh1 hx) (Nat.le_of_ble_eq_true rfl) (Nat.le_of_ble_eq_true rfl) (Nat.le_of_ble_eq_true rfl) (Nat.le_of_ble_eq_true rfl) (fun r_3 G1 h_3 => ?_)
  rcases h_3 with ⟨a, e1, e2, e3⟩ | ⟨e1, p2, v, e2, e3, e4⟩
  · subst e2; subst e3
    refine w_istore_5 dX8_tellsAt_6 rfl ?_
    refine w_aload_n dX8_tellsAt_8 rfl ?_
    refine w_iconst (v := nI 0) dX8_tellsAt_9 (by decide) ?_
    refine w_iload dX8_tellsAt_10 rfl ?_
    refine wV2i dX8_tellsAt_12 lk_X8_90 rfl (by first | assumption | exact gs_at | (rw [gs_ne (by omega)]; (first | assumption | exact gs_at | (rw [gs_ne (by omega)]; (first | assumption | exact gs_at | (rw [gs_ne (by omega)]; (first | assumption | exact gs_at | (rw [gs_ne (by omega)]; (first | assumption | exact gs_at))))))))) rfl rfl (m_fig (lo := 0) gs_at (hT.gs (x := mO V th hi ac tp ba (nI n) (nI (tokE y n (skp y n p))) (-1) dp io hm_ we sh so)) hn hy ht1 (by decide) hm1 hz) (Nat.le_of_ble_eq_true rfl) (Nat.le_of_ble_eq_true rfl) (Nat.le_of_ble_eq_true rfl) (Nat.le_of_ble_eq_true rfl) (fun r_12 G2 h_12 => ?_)
    rcases h_12 with ⟨b, f1, f2, f3⟩ | ⟨f1, p3, w, f2, f3, f4⟩
    · rw [gs_gs] at f3
      subst f2; subst f3
      refine w_istore_6 dX8_tellsAt_15 rfl ?_
      refine w_aload_n dX8_tellsAt_17 rfl ?_
      refine w_getf dX8_tellsAt_18 fl_X8_25 (by first | assumption | exact gs_at | (rw [gs_ne (by omega)]; (first | assumption | exact gs_at | (rw [gs_ne (by omega)]; (first | assumption | exact gs_at | (rw [gs_ne (by omega)]; (first | assumption | exact gs_at | (rw [gs_ne (by omega)]; (first | assumption | exact gs_at))))))))) rfl ?_
      refine w_iconst (v := (-1)) dX8_tellsAt_21 (by decide) ?_
      refine w_icmp_ne (tgt := 38) dX8_tellsAt_22 (by decide) (fun c_22 => ?_) (fun c_22 => ?_)
      · skip
        exact absurd rfl c_22
      · skip
        refine w_aload_n dX8_tellsAt_25 rfl ?_
        refine w_getf dX8_tellsAt_26 fl_X8_7 (by first | assumption | exact gs_at | (rw [gs_ne (by omega)]; (first | assumption | exact gs_at | (rw [gs_ne (by omega)]; (first | assumption | exact gs_at | (rw [gs_ne (by omega)]; (first | assumption | exact gs_at | (rw [gs_ne (by omega)]; (first | assumption | exact gs_at))))))))) rfl ?_
        refine w_iload_n dX8_tellsAt_29 rfl ?_
        refine w_iload_n dX8_tellsAt_30 rfl ?_
        refine w_iload dX8_tellsAt_31 rfl ?_
        first | refine w_imulN dX8_tellsAt_33 ?_ | refine w_imul dX8_tellsAt_33 ?_
        first | refine w_iaddN dX8_tellsAt_34 ?_ | refine w_iadd dX8_tellsAt_34 ?_
        refine w_iload dX8_tellsAt_35 rfl ?_
        have hal : a < h1 := numF_lt e1
        have hbl : b < m1 := numF_lt f1
        have hia := hix a hal
        refine w_iastore dX8_tellsAt_37 (by first | assumption | exact gs_at | (rw [gs_ne (by omega)]; (first | assumption | exact gs_at | (rw [gs_ne (by omega)]; (first | assumption | exact gs_at | (rw [gs_ne (by omega)]; (first | assumption | exact gs_at | (rw [gs_ne (by omega)]; (first | assumption | exact gs_at))))))))) (by first | assumption | exact vp_in_nI (by omega) (by omega) | exact vp_in_nI (by assumption) (by omega)) ?_
        rw [nI_clamp (by omega)]
        refine w_vret dX8_tellsAt_38 rfl (Nat.le_of_ble_eq_true rfl) (Nat.le_of_ble_eq_true rfl) ?_
        exact ⟨rfl, Or.inl ⟨a, b, e1, hal, f1, hbl, by rw [gs_comm (by omega)]; rfl⟩⟩
    · rw [gs_gs] at f4
      subst f3; subst f4
      refine w_istore_6 dX8_tellsAt_15 rfl ?_
      refine w_aload_n dX8_tellsAt_17 rfl ?_
      refine w_getf dX8_tellsAt_18 fl_X8_25 (by first | assumption | exact gs_at | (rw [gs_ne (by omega)]; (first | assumption | exact gs_at | (rw [gs_ne (by omega)]; (first | assumption | exact gs_at | (rw [gs_ne (by omega)]; (first | assumption | exact gs_at | (rw [gs_ne (by omega)]; (first | assumption | exact gs_at))))))))) rfl ?_
      refine w_iconst (v := (-1)) dX8_tellsAt_21 (by decide) ?_
      refine w_icmp_ne (tgt := 38) dX8_tellsAt_22 (by decide) (fun c_22 => ?_) (fun c_22 => ?_)
      · skip
        refine w_vret dX8_tellsAt_38 rfl (Nat.le_of_ble_eq_true rfl) (Nat.le_of_ble_eq_true rfl) ?_
        exact ⟨rfl, Or.inr (Or.inr ⟨a, e1, f1, p3, f2, rfl⟩)⟩
      · skip
        exact absurd c_22 (nI_nm1 (show nxt y n (skp y n p) < 2 ^ 31 by omega))

  · subst e3; subst e4
    refine w_istore_5 dX8_tellsAt_6 rfl ?_
    refine w_aload_n dX8_tellsAt_8 rfl ?_
    refine w_iconst (v := nI 0) dX8_tellsAt_9 (by decide) ?_
    refine w_iload dX8_tellsAt_10 rfl ?_
    refine wV2u dX8_tellsAt_12 lk_X8_90 rfl (by first | assumption | exact gs_at | (rw [gs_ne (by omega)]; (first | assumption | exact gs_at | (rw [gs_ne (by omega)]; (first | assumption | exact gs_at | (rw [gs_ne (by omega)]; (first | assumption | exact gs_at | (rw [gs_ne (by omega)]; (first | assumption | exact gs_at))))))))) rfl rfl (m_figF (y := y) (fa := nI (skp y n p)) gs_at (nI_nm1 (by omega))) (Nat.le_of_ble_eq_true rfl) (Nat.le_of_ble_eq_true rfl) (Nat.le_of_ble_eq_true rfl) (Nat.le_of_ble_eq_true rfl) ?_
    refine w_istore_6 dX8_tellsAt_15 rfl ?_
    refine w_aload_n dX8_tellsAt_17 rfl ?_
    refine w_getf dX8_tellsAt_18 fl_X8_25 (by first | assumption | exact gs_at | (rw [gs_ne (by omega)]; (first | assumption | exact gs_at | (rw [gs_ne (by omega)]; (first | assumption | exact gs_at | (rw [gs_ne (by omega)]; (first | assumption | exact gs_at | (rw [gs_ne (by omega)]; (first | assumption | exact gs_at))))))))) rfl ?_
    refine w_iconst (v := (-1)) dX8_tellsAt_21 (by decide) ?_
    refine w_icmp_ne (tgt := 38) dX8_tellsAt_22 (by decide) (fun c_22 => ?_) (fun c_22 => ?_)
    · skip
      refine w_vret dX8_tellsAt_38 rfl (Nat.le_of_ble_eq_true rfl) (Nat.le_of_ble_eq_true rfl) ?_
      exact ⟨rfl, Or.inr (Or.inl ⟨e1, p2, e2, rfl⟩)⟩
    · skip
      exact absurd c_22 (nI_nm1 (show skp y n p < 2 ^ 31 by omega))

theorem m_tells {E : EV} {V n p : Nat} {th hi ac tp ba dp io hm_ we sh so : Int32} {y : Nat → Nat} {G : AH} {mm : Nat → Int32} {fi m1 : Nat} {z : Int32} (hV : G.1 V = some (mO V th hi ac tp ba (nI n) (nI (p)) (-1) dp io hm_ we sh so)) (hT : TxP G V ba y n) (hn : n ≤ 400) (hy : ∀ i, y i < 256) (hp : p ≤ n) (hm : G.1 (V + 1) = some (aI 750 mm)) (hm1 : m1 < 2 ^ 20) (hz : z = nI m1 - nI 1) (hix : fi < 750) : Cd E 5 kX8_tells [.ref V, .int (nI fi), .int z] G (fun G1 => (∃ b, numF y n (skp y n p) 0 m1 = some b ∧ b < m1 ∧ G1 = (gs (gs G (V + 1) (aI 750 (upd mm fi (nI b)))) V (mO V th hi ac tp ba (nI n) (nI (tokE y n (skp y n p))) (-1) dp io hm_ we sh so))) ∨ (numF y n (skp y n p) 0 m1 = none ∧ ∃ p2, p2 ≤ n ∧ G1 = (gs G V (mO V th hi ac tp ba (nI n) (nI (p2)) (nI (skp y n p)) dp io hm_ we sh so)))) := by
  have hs1 := (skp_le (y := y) hp).2
  refine Ct.intro rfl (by decide) [.ref V, .int (nI fi), .int z, .float 0] (by simp [Value.category]) (Nat.le_of_ble_eq_true rfl) rfl ?_
  refine w_aload_n dX8_tells_0 rfl ?_
  refine w_iconst (v := nI 0) dX8_tells_1 (by decide) ?_
  refine w_iload_n dX8_tells_2 rfl ?_
  refine wV2i dX8_tells_3 lk_X8_90 rfl (by first | assumption | exact gs_at | (rw [gs_ne (by omega)]; (first | assumption | exact gs_at | (rw [gs_ne (by omega)]; (first | assumption | exact gs_at | (rw [gs_ne (by omega)]; (first | assumption | exact gs_at | (rw [gs_ne (by omega)]; (first | assumption | exact gs_at))))))))) rfl rfl (m_fig (lo := 0) hV hT hn hy hp (by decide) hm1 hz) (Nat.le_of_ble_eq_true rfl) (Nat.le_of_ble_eq_true rfl) (Nat.le_of_ble_eq_true rfl) (Nat.le_of_ble_eq_true rfl) (fun r_3 G1 h_3 => ?_)
  rcases h_3 with ⟨b, e1, e2, e3⟩ | ⟨e1, p2, v, e2, e3, e4⟩
  · subst e2; subst e3
    refine w_istore_3 dX8_tells_6 rfl ?_
    refine w_aload_n dX8_tells_7 rfl ?_
    refine w_getf dX8_tells_8 fl_X8_25 (by first | assumption | exact gs_at | (rw [gs_ne (by omega)]; (first | assumption | exact gs_at | (rw [gs_ne (by omega)]; (first | assumption | exact gs_at | (rw [gs_ne (by omega)]; (first | assumption | exact gs_at | (rw [gs_ne (by omega)]; (first | assumption | exact gs_at))))))))) rfl ?_
    refine w_iconst (v := (-1)) dX8_tells_11 (by decide) ?_
    refine w_icmp_ne (tgt := 22) dX8_tells_12 (by decide) (fun c_12 => ?_) (fun c_12 => ?_)
    · skip
      exact absurd rfl c_12
    · skip
      refine w_aload_n dX8_tells_15 rfl ?_
      refine w_getf dX8_tells_16 fl_X8_7 (by first | assumption | exact gs_at | (rw [gs_ne (by omega)]; (first | assumption | exact gs_at | (rw [gs_ne (by omega)]; (first | assumption | exact gs_at | (rw [gs_ne (by omega)]; (first | assumption | exact gs_at | (rw [gs_ne (by omega)]; (first | assumption | exact gs_at))))))))) rfl ?_
      refine w_iload_n dX8_tells_19 rfl ?_
      refine w_iload_n dX8_tells_20 rfl ?_
      refine w_iastore dX8_tells_21 (by first | assumption | exact gs_at | (rw [gs_ne (by omega)]; (first | assumption | exact gs_at | (rw [gs_ne (by omega)]; (first | assumption | exact gs_at | (rw [gs_ne (by omega)]; (first | assumption | exact gs_at | (rw [gs_ne (by omega)]; (first | assumption | exact gs_at))))))))) (by first | assumption | exact vp_in_nI (by omega) (by omega) | exact vp_in_nI (by assumption) (by omega)) ?_
      rw [nI_clamp (by omega)]
      refine w_vret dX8_tells_22 rfl (Nat.le_of_ble_eq_true rfl) (Nat.le_of_ble_eq_true rfl) ?_
      exact ⟨rfl, Or.inl ⟨b, e1, numF_lt e1, by rw [gs_comm (by omega)]⟩⟩
  · subst e3; subst e4
    refine w_istore_3 dX8_tells_6 rfl ?_
    refine w_aload_n dX8_tells_7 rfl ?_
    refine w_getf dX8_tells_8 fl_X8_25 (by first | assumption | exact gs_at | (rw [gs_ne (by omega)]; (first | assumption | exact gs_at | (rw [gs_ne (by omega)]; (first | assumption | exact gs_at | (rw [gs_ne (by omega)]; (first | assumption | exact gs_at | (rw [gs_ne (by omega)]; (first | assumption | exact gs_at))))))))) rfl ?_
    refine w_iconst (v := (-1)) dX8_tells_11 (by decide) ?_
    refine w_icmp_ne (tgt := 22) dX8_tells_12 (by decide) (fun c_12 => ?_) (fun c_12 => ?_)
    · skip
      refine w_vret dX8_tells_22 rfl (Nat.le_of_ble_eq_true rfl) (Nat.le_of_ble_eq_true rfl) ?_
      exact ⟨rfl, Or.inr ⟨e1, p2, e2, rfl⟩⟩
    · skip
      exact absurd c_12 (nI_nm1 (show skp y n p < 2 ^ 31 by omega))

