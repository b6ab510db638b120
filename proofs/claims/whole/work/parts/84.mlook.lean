/-! the model: where to look -/
theorem ml_look {E : EV} {Q : OC → AH → Prop} {V t : Nat} {th hi ac tp ba en at_ fa dp io hm_ we sh so : Int32} {G : AH} {a : Nat → Int32} (hV : G.1 V = some (mO V th hi ac tp ba en at_ fa dp io hm_ we sh so)) (hA : G.1 (V + 8) = some (aZ 36 a)) (ha : ∀ w, w < 36 → a w = nI (b2 (ftP w t))) (h2 : 2 ≤ wyN t 0 36) (hQ : Q (.inl (some (.int (lkS t 6).1))) G) : ∀ (k i : Nat) (z : Value) (b : Int32), 6 - i < k → i ≤ 6 → ((i = 0 ∧ b = 2000000000) ∨ (0 < i ∧ b = nI (lkS t i).2)) → Wp E 3 0 0 kX8_look Q G (0, 0) 37 [.ref V, .int (nI (wyN t 0 36)), .int (lkS t i).1, .int b, .int (nI i), z] [] := by
  have hw36 := wyN_le t 0 36
  intro k
  induction k with
  | zero => intro i z b h; exact absurd h (by omega)
  | succ k ih =>
    intro i z b hk hi4 hb
    have hwi := wyN_le t (1 * 2 ^ i) 36
    have hls := lkS_le t i
    have hN := ih (i + 1) (.int (nI (wyN t (1 * 2 ^ i) 36)))
    have hst : lkS t (i + 1) = if max (wyN t (1 * 2 ^ i) 36) (wyN t 0 36 - wyN t (1 * 2 ^ i) 36) < (lkS t i).2 then (nI i, max (wyN t (1 * 2 ^ i) 36) (wyN t 0 36 - wyN t (1 * 2 ^ i) 36)) else lkS t i := rfl
    have hlt : nI (max (wyN t (1 * 2 ^ i) 36) (wyN t 0 36 - wyN t (1 * 2 ^ i) 36)) < b ↔ max (wyN t (1 * 2 ^ i) 36) (wyN t 0 36 - wyN t (1 * 2 ^ i) 36) < (lkS t i).2 := by
      rcases hb with ⟨h0, hb⟩ | ⟨h0, hb⟩
      · subst h0; subst hb
        have e : (lkS t 0).2 = wyN t 0 36 + 1 := rfl
        rw [e]
        have h9 : nI (max (wyN t (1 * 2 ^ 0) 36) (wyN t 0 36 - wyN t (1 * 2 ^ 0) 36)) < 2000000000 := nI_lt (b := 2000000000) (by omega) (by decide)
        exact ⟨fun _ => by omega, fun _ => h9⟩
      · subst hb
        rw [nI_ltI (by omega) (by omega)]
    refine w_iload dX8_look_37 rfl ?_
    refine w_bipush (v := nI 6) dX8_look_39 (by decide) ?_
    refine w_icmp_ge (tgt := 92) dX8_look_41 (by decide) (fun c_41 => ?_) (fun c_41 => ?_)
    · try simp (disch := omega) only [nI_ltI, nI_leI, ge_iff_le, gt_iff_lt, Nat.not_lt, Nat.not_le] at c_41
      refine w_iload_n dX8_look_92 rfl ?_
      refine w_iret dX8_look_93 rfl (Nat.le_of_ble_eq_true rfl) (Nat.le_of_ble_eq_true rfl) ?_
      have e : i = 6 := by omega
      subst e
      exact hQ
    · try simp (disch := omega) only [nI_ltI, nI_leI, ge_iff_le, gt_iff_lt, Nat.not_lt, Nat.not_le] at c_41
      refine w_iload_n dX8_look_44 rfl ?_
      refine w_iconst (v := nI 1) dX8_look_45 (by decide) ?_
      refine w_icmp_le (tgt := 92) dX8_look_46 (by decide) (fun c_46 => ?_) (fun c_46 => ?_)
      · try simp (disch := omega) only [nI_ltI, nI_leI, ge_iff_le, gt_iff_lt, Nat.not_lt, Nat.not_le] at c_46
        refine w_iload_n dX8_look_92 rfl ?_
        refine w_iret dX8_look_93 rfl (Nat.le_of_ble_eq_true rfl) (Nat.le_of_ble_eq_true rfl) ?_
        have e : i = 6 := by omega
        subst e
        exact hQ
      · try simp (disch := omega) only [nI_ltI, nI_leI, ge_iff_le, gt_iff_lt, Nat.not_lt, Nat.not_le] at c_46
        refine w_aload_n dX8_look_49 rfl ?_
        refine w_iload dX8_look_50 rfl ?_
        refine wV1u dX8_look_52 lk_X8_334 rfl (by first | assumption | exact gs_at | (rw [gs_ne (by omega)]; (first | assumption | exact gs_at | (rw [gs_ne (by omega)]; (first | assumption | exact gs_at | (rw [gs_ne (by omega)]; (first | assumption | exact gs_at | (rw [gs_ne (by omega)]; (first | assumption | exact gs_at))))))))) rfl rfl (m_passing hV hA ha (by omega)) (Nat.le_of_ble_eq_true rfl) (Nat.le_of_ble_eq_true rfl) (Nat.le_of_ble_eq_true rfl) (Nat.le_of_ble_eq_true rfl) ?_
        refine w_istore_5 dX8_look_55 rfl ?_
        refine w_iload dX8_look_57 rfl ?_
        refine w_iload_n dX8_look_59 rfl ?_
        refine w_iload dX8_look_60 rfl ?_
        refine w_isubN (by omega) dX8_look_62 ?_
        refine wS2u dX8_look_63 lk_X8_219 rfl (m_greater (by omega) (by omega)) (Nat.le_of_ble_eq_true rfl) (Nat.le_of_ble_eq_true rfl) (Nat.le_of_ble_eq_true rfl) (Nat.le_of_ble_eq_true rfl) ?_
        refine w_iload_n dX8_look_66 rfl ?_
        refine w_icmp_lt (tgt := 73) dX8_look_67 (by decide) (fun c_67 => ?_) (fun c_67 => ?_)
        · try simp (disch := omega) only [nI_ltI, nI_leI, ge_iff_le, gt_iff_lt, Nat.not_lt, Nat.not_le] at c_67
          refine w_iload dX8_look_73 rfl ?_
          refine w_iload_n dX8_look_75 rfl ?_
          refine w_iload dX8_look_76 rfl ?_
          refine w_isubN (by omega) dX8_look_78 ?_
          refine wS2u dX8_look_79 lk_X8_219 rfl (m_greater (by omega) (by omega)) (Nat.le_of_ble_eq_true rfl) (Nat.le_of_ble_eq_true rfl) (Nat.le_of_ble_eq_true rfl) (Nat.le_of_ble_eq_true rfl) ?_
          refine w_istore_3 dX8_look_82 rfl ?_
          refine w_iload dX8_look_83 rfl ?_
          refine w_istore_2 dX8_look_85 rfl ?_
          first | refine w_iinc_4 dX8_look_86 (nI_inc _) rfl ?_ | refine w_iinc_4 dX8_look_86 rfl rfl ?_
          refine w_goto (tgt := 37) dX8_look_89 (by decide) ?_
          first
            | (have h9 := hN _ (by omega) (by omega) (Or.inr ⟨by omega, rfl⟩); rw [hst, if_pos (hlt.mp c_67)] at h9; exact h9)
            | (have h8 : ¬ max (wyN t (1 * 2 ^ i) 36) (wyN t 0 36 - wyN t (1 * 2 ^ i) 36) < (lkS t i).2 := (fun h => c_67 (hlt.mpr h)); have hb2 : b = nI (lkS t i).2 := (by rcases hb with ⟨h0, h1⟩ | ⟨h0, h1⟩; (subst h0; exact absurd (show max (wyN t (1 * 2 ^ 0) 36) (wyN t 0 36 - wyN t (1 * 2 ^ 0) 36) < (lkS t 0).2 from by show _ < wyN t 0 36 + 1; omega) h8); exact h1); have h9 := hN b (by omega) (by omega) (Or.inr ⟨by omega, by rw [hst, if_neg h8]; exact hb2⟩); rw [hst, if_neg h8] at h9; exact h9)
        · try simp (disch := omega) only [nI_ltI, nI_leI, ge_iff_le, gt_iff_lt, Nat.not_lt, Nat.not_le] at c_67
          refine w_goto (tgt := 86) dX8_look_70 (by decide) ?_
          first | refine w_iinc_4 dX8_look_86 (nI_inc _) rfl ?_ | refine w_iinc_4 dX8_look_86 rfl rfl ?_
          refine w_goto (tgt := 37) dX8_look_89 (by decide) ?_
          first
            | (have h9 := hN _ (by omega) (by omega) (Or.inr ⟨by omega, rfl⟩); rw [hst, if_pos (hlt.mp c_67)] at h9; exact h9)
            | (have h8 : ¬ max (wyN t (1 * 2 ^ i) 36) (wyN t 0 36 - wyN t (1 * 2 ^ i) 36) < (lkS t i).2 := (fun h => c_67 (hlt.mpr h)); have hb2 : b = nI (lkS t i).2 := (by rcases hb with ⟨h0, h1⟩ | ⟨h0, h1⟩; (subst h0; exact absurd (show max (wyN t (1 * 2 ^ 0) 36) (wyN t 0 36 - wyN t (1 * 2 ^ 0) 36) < (lkS t 0).2 from by show _ < wyN t 0 36 + 1; omega) h8); exact h1); have h9 := hN b (by omega) (by omega) (Or.inr ⟨by omega, by rw [hst, if_neg h8]; exact hb2⟩); rw [hst, if_neg h8] at h9; exact h9)
theorem m_look {E : EV} {V n : Nat} {th hi ac ba en at_ fa dp io hm_ we sh so : Int32} {G : AH} {f : Nat → Nat}  (hV : G.1 V = some (mO V th hi ac (nI n) ba en at_ fa dp io hm_ we sh so)) (hT5 : G.1 (V + 5) = some (aI 400 (fun i => nI (f i)))) (hn : n ≤ 400) (hf : ∀ i, f i < 256) (ha8 : ∃ a : Nat → Int32, G.1 (V + 8) = some (aZ 36 a))  : Ci E 3 kX8_look [.ref V] G (fun r G1 => r = (if trOk f n then lokV (trT f (n / 2)) else nI 0) ∧ ∃ a : Nat → Int32, G1 = gs (gs G (V + 8) (aZ 36 a)) V (mO V (nI (if trOk f n then 0 else 1)) hi ac (nI 0) ba en at_ fa dp io hm_ we sh so)) := by
  refine Ct.intro rfl (by decide) [.ref V, .float 0, .float 0, .float 0, .float 0, .float 0] (by simp [Value.category]) (Nat.le_of_ble_eq_true rfl) rfl ?_
  refine w_aload_n dX8_look_0 rfl ?_
  refine wV0i dX8_look_1 lk_X8_331 rfl (by first | assumption | exact gs_at | (rw [gs_ne (by omega)]; (first | assumption | exact gs_at | (rw [gs_ne (by omega)]; (first | assumption | exact gs_at | (rw [gs_ne (by omega)]; (first | assumption | exact gs_at | (rw [gs_ne (by omega)]; (first | assumption | exact gs_at))))))))) rfl rfl (m_told hV hT5 hn hf ha8) (Nat.le_of_ble_eq_true rfl) (Nat.le_of_ble_eq_true rfl) (Nat.le_of_ble_eq_true rfl) (Nat.le_of_ble_eq_true rfl) (fun r_1 G1 h_1 => ?_)
  obtain ⟨hb, ho, a, hG1, ha⟩ := h_1
  subst hG1
  have hw36 := wyN_le (trT f (n / 2)) 0 36
  by_cases hok : trOk f n
  · have e1 := ho hok
    subst e1
    have hA := ha hok
    refine w_istore_1 dX8_look_4 rfl ?_
    refine w_aload_n dX8_look_5 rfl ?_
    refine w_iload_n dX8_look_6 rfl ?_
    refine w_iconst (v := (-1)) dX8_look_7 (by decide) ?_
    refine w_icmp_ne (tgt := 15) dX8_look_8 (by decide) (fun c_8 => ?_) (fun c_8 => ?_)
    · skip
      refine w_iconst (v := nI 0) dX8_look_15 (by decide) ?_
      refine w_putf dX8_look_16 fl_X8_39 (by first | assumption | exact gs_at | (rw [gs_ne (by omega)]; (first | assumption | exact gs_at | (rw [gs_ne (by omega)]; (first | assumption | exact gs_at | (rw [gs_ne (by omega)]; (first | assumption | exact gs_at | (rw [gs_ne (by omega)]; (first | assumption | exact gs_at))))))))) (by simp) rfl rfl ?_
      refine w_aload_n dX8_look_19 rfl ?_
      refine w_getf dX8_look_20 fl_X8_39 (by first | assumption | exact gs_at | (rw [gs_ne (by omega)]; (first | assumption | exact gs_at | (rw [gs_ne (by omega)]; (first | assumption | exact gs_at | (rw [gs_ne (by omega)]; (first | assumption | exact gs_at | (rw [gs_ne (by omega)]; (first | assumption | exact gs_at))))))))) rfl ?_
      refine w_ifN_le (tgt := 28) dX8_look_23 (by decide) (fun c_23 => ?_) (fun c_23 => ?_)
      · skip
        refine w_iconst (v := (-1)) dX8_look_28 (by decide) ?_
        refine w_istore_2 dX8_look_29 rfl ?_
        refine w_ldcw (v := 2000000000) dX8_look_30 u_1648 ?_
        refine w_istore_3 dX8_look_33 rfl ?_
        refine w_iconst (v := nI 0) dX8_look_34 (by decide) ?_
        refine w_istore_4 dX8_look_35 rfl ?_
        rw [gs_gs]
        by_cases h2 : 2 ≤ wyN (trT f (n / 2)) 0 36
        · exact ml_look gs_at ((gs_ne (by omega)).trans gs_at) hA h2 ⟨_, rfl, by rw [if_pos hok, lokV, if_neg (by omega)], a, by rw [if_pos hok]⟩ 7 0 (.float 0) _ (by omega) (by omega) (Or.inl ⟨rfl, rfl⟩)
        · refine w_iload dX8_look_37 rfl ?_
          refine w_bipush (v := nI 6) dX8_look_39 (by decide) ?_
          refine w_icmp_ge (tgt := 92) dX8_look_41 (by decide) (fun c_41 => ?_) (fun c_41 => ?_)
          · skip
            exact absurd c_41 (by decide)
          · skip
            refine w_iload_n dX8_look_44 rfl ?_
            refine w_iconst (v := nI 1) dX8_look_45 (by decide) ?_
            refine w_icmp_le (tgt := 92) dX8_look_46 (by decide) (fun c_46 => ?_) (fun c_46 => ?_)
            · skip
              refine w_iload_n dX8_look_92 rfl ?_
              refine w_iret dX8_look_93 rfl (Nat.le_of_ble_eq_true rfl) (Nat.le_of_ble_eq_true rfl) ?_
              exact ⟨_, rfl, by rw [if_pos hok, lokV, if_pos (by omega)], a, by rw [if_pos hok]; rfl⟩
            · skip
              exact absurd (nI_le (show wyN (trT f (n / 2)) 0 36 ≤ 1 by omega) (by decide)) c_46
      · skip
        exact absurd c_23 (by decide)
    · skip
      exact absurd c_8 (nI_nm1 (by omega))
  · have e1 := hb hok
    subst e1
    refine w_istore_1 dX8_look_4 rfl ?_
    refine w_aload_n dX8_look_5 rfl ?_
    refine w_iload_n dX8_look_6 rfl ?_
    refine w_iconst (v := (-1)) dX8_look_7 (by decide) ?_
    refine w_icmp_ne (tgt := 15) dX8_look_8 (by decide) (fun c_8 => ?_) (fun c_8 => ?_)
    · skip
      exact absurd rfl c_8
    · skip
      refine w_iconst (v := nI 1) dX8_look_11 (by decide) ?_
      refine w_goto (tgt := 16) dX8_look_12 (by decide) ?_
      refine w_putf dX8_look_16 fl_X8_39 (by first | assumption | exact gs_at | (rw [gs_ne (by omega)]; (first | assumption | exact gs_at | (rw [gs_ne (by omega)]; (first | assumption | exact gs_at | (rw [gs_ne (by omega)]; (first | assumption | exact gs_at | (rw [gs_ne (by omega)]; (first | assumption | exact gs_at))))))))) (by simp) rfl rfl ?_
      refine w_aload_n dX8_look_19 rfl ?_
      refine w_getf dX8_look_20 fl_X8_39 (by first | assumption | exact gs_at | (rw [gs_ne (by omega)]; (first | assumption | exact gs_at | (rw [gs_ne (by omega)]; (first | assumption | exact gs_at | (rw [gs_ne (by omega)]; (first | assumption | exact gs_at | (rw [gs_ne (by omega)]; (first | assumption | exact gs_at))))))))) rfl ?_
      refine w_ifN_le (tgt := 28) dX8_look_23 (by decide) (fun c_23 => ?_) (fun c_23 => ?_)
      · skip
        exact absurd c_23 (by decide)
      · skip
        refine w_iconst (v := nI 0) dX8_look_26 (by decide) ?_
        refine w_iret dX8_look_27 rfl (Nat.le_of_ble_eq_true rfl) (Nat.le_of_ble_eq_true rfl) ?_
        exact ⟨_, rfl, by rw [if_neg hok], a, by rw [if_neg hok, gs_gs]; rfl⟩
