/-! the model: what is remembered -/
theorem ActR.full {av a mm : Nat → Int32} {nw : Nat} {T : ST} {sd : Int32} {P : Nat → ST × Int32} (h : ActR av mm 12 nw P) (hnw : nw < 12) (hPB : ∀ i, i < 12 → Bd (P i).1) (hR : MoR mm T sd) (hB : Bd T) (h1 : ∀ j, j < 3850 → a j = av (j + 350)) (h2 : ∀ j, j < 350 → a (3850 + j) = mm j) : ActR a mm 12 ((nw + 1) % 12) (updP P ((nw + 1) % 12) (T, sd)) := by
  intro j hj
  by_cases e : j = 11
  · subst e
    have e1 : ((nw + 1) % 12 + 13 + 11 - 12) % 12 = (nw + 1) % 12 := by omega
    rw [e1]
    have e2 : updP P ((nw + 1) % 12) (T, sd) ((nw + 1) % 12) = (T, sd) := by unfold updP; rw [if_pos rfl]
    rw [e2]
    exact ⟨hR.cg hB (fun k hk => h2 k hk), h2 1 (by decide), h2 2 (by decide)⟩
  · obtain ⟨q1, q2, q3⟩ := h (j + 1) (by omega)
    have e1 : ((nw + 1) % 12 + 13 + j - 12) % 12 = (nw + 13 + (j + 1) - 12) % 12 := by omega
    have e2 : updP P ((nw + 1) % 12) (T, sd) ((nw + 13 + (j + 1) - 12) % 12) = P ((nw + 13 + (j + 1) - 12) % 12) := by unfold updP; rw [if_neg (by omega)]
    rw [e1, e2]
    refine ⟨q1.cg (hPB _ (Nat.mod_lt _ (by decide))) (fun k hk => ?_), ?_, ?_⟩
    · show a (350 * j + k) = av (350 * (j + 1) + k)
      rw [h1 _ (by omega), show 350 * j + k + 350 = 350 * (j + 1) + k by omega]
    · rw [h1 _ (by omega), show 350 * j + 1 + 350 = 350 * (j + 1) + 1 by omega]; exact q2
    · rw [h1 _ (by omega), show 350 * j + 2 + 350 = 350 * (j + 1) + 2 by omega]; exact q3
theorem ActR.more {av a mm : Nat → Int32} {nw rm : Nat} {T : ST} {sd : Int32} {P : Nat → ST × Int32} (h : ActR av mm rm nw P) (hnw : nw < 12) (hrm : rm < 12) (hPB : ∀ i, i < 12 → Bd (P i).1) (hR : MoR mm T sd) (hB : Bd T) (h1 : ∀ j, ¬ (350 * rm ≤ j ∧ j < 350 * rm + 350) → a j = av j) (h2 : ∀ j, j < 350 → a (350 * rm + j) = mm j) : ActR a mm (rm + 1) ((nw + 1) % 12) (updP P ((nw + 1) % 12) (T, sd)) := by
  intro j hj
  by_cases e : j = rm
  · subst e
    have e1 : ((nw + 1) % 12 + 13 + j - (j + 1)) % 12 = (nw + 1) % 12 := by omega
    rw [e1]
    have e2 : updP P ((nw + 1) % 12) (T, sd) ((nw + 1) % 12) = (T, sd) := by unfold updP; rw [if_pos rfl]
    rw [e2]
    exact ⟨hR.cg hB (fun k hk => h2 k hk), h2 1 (by decide), h2 2 (by decide)⟩
  · obtain ⟨q1, q2, q3⟩ := h j (by omega)
    have e1 : ((nw + 1) % 12 + 13 + j - (rm + 1)) % 12 = (nw + 13 + j - rm) % 12 := by omega
    have e2 : updP P ((nw + 1) % 12) (T, sd) ((nw + 13 + j - rm) % 12) = P ((nw + 13 + j - rm) % 12) := by unfold updP; rw [if_neg (by omega)]
    rw [e1, e2]
    refine ⟨q1.cg (hPB _ (Nat.mod_lt _ (by decide))) (fun k hk => ?_), ?_, ?_⟩
    · exact h1 _ (by omega)
    · rw [h1 _ (by omega)]; exact q2
    · rw [h1 _ (by omega)]; exact q3
theorem m_remembers {E : EV} {V : Nat} {th hi ac tp ba en at_ fa dp io hm_ we sh so : Int32} {mm : Nat → Int32} {T : ST} {sd : Int32} {G : AH} {av : Nat → Int32} {rm nw : Nat} {P : Nat → ST × Int32} (hV : G.1 V = some (mO V th hi ac tp ba en at_ fa dp io hm_ we sh so)) (hm : G.1 (V + 1) = some (aI 750 mm)) (hR : MoR mm T sd) (hB : Bd T) (hac : ac = nI rm) (hrm : rm ≤ 12) (hnw : nw < 12) (ha4 : G.1 (V + 4) = some (aI 4200 av)) (hA : ActR av mm rm nw P) (hPB : ∀ i, i < 12 → Bd (P i).1) : Cd E 1 kX8_remembers [.ref V] G (fun G1 => ∃ a, G1 = (gs (gs G (V + 4) (aI 4200 a)) V (mO V th hi (nI (min 12 (rm + 1))) tp ba en at_ fa dp io hm_ we sh so)) ∧ ActR a mm (min 12 (rm + 1)) ((nw + 1) % 12) (updP P ((nw + 1) % 12) (T, sd))) := by
  subst hac
  refine Ct.intro rfl (by decide) [.ref V, .float 0] (by simp [Value.category]) (Nat.le_of_ble_eq_true rfl) rfl ?_
  refine w_aload_n dX8_remembers_0 rfl ?_
  refine w_getf dX8_remembers_1 fl_X8_158 (by first | assumption | exact gs_at | (rw [gs_ne (by omega)]; (first | assumption | exact gs_at | (rw [gs_ne (by omega)]; (first | assumption | exact gs_at | (rw [gs_ne (by omega)]; (first | assumption | exact gs_at | (rw [gs_ne (by omega)]; (first | assumption | exact gs_at))))))))) rfl ?_
  refine w_bipush (v := nI 12) dX8_remembers_4 (by decide) ?_
  refine w_icmp_ne (tgt := 50) dX8_remembers_6 (by decide) (fun c_6 => ?_) (fun c_6 => ?_)
  · try simp (disch := omega) only [nI_b2, Decidable.not_not, nI_ltI, nI_leI, nI_eq, ge_iff_le, gt_iff_lt, ne_eq, Nat.not_lt, Nat.not_le] at c_6
    refine w_iconst (v := nI 0) dX8_remembers_50 (by decide) ?_
    refine w_istore_1 dX8_remembers_51 rfl ?_
    have hne : rm < 12 := by omega
    have h := ml_rcopy (E := E) (Q := fun o G1 => o = .inl none ∧ ∃ a, G1 = (gs (gs G (V + 4) (aI 4200 a)) V (mO V th hi (nI (min 12 (rm + 1))) tp ba en at_ fa dp io hm_ we sh so)) ∧ ActR a mm (min 12 (rm + 1)) ((nw + 1) % 12) (updP P ((nw + 1) % 12) (T, sd))) hV hm hne rfl (av := av) ?_ 351 0 av (by omega) (by omega) (fun j hj => absurd hj (by omega)) (fun j _ => rfl)
    · rw [gs_id ha4] at h; exact h
    intro a k1 k2
    refine w_aload_n dX8_remembers_86 rfl ?_
    refine w_dup dX8_remembers_87 rfl ?_
    refine w_getf dX8_remembers_88 fl_X8_158 (by first | assumption | exact gs_at | (rw [gs_ne (by omega)]; (first | assumption | exact gs_at | (rw [gs_ne (by omega)]; (first | assumption | exact gs_at | (rw [gs_ne (by omega)]; (first | assumption | exact gs_at | (rw [gs_ne (by omega)]; (first | assumption | exact gs_at))))))))) rfl ?_
    refine w_iconst (v := nI 1) dX8_remembers_91 (by decide) ?_
    first | refine w_iaddN dX8_remembers_92 ?_ | refine w_iadd dX8_remembers_92 ?_
    refine w_putf dX8_remembers_93 fl_X8_158 (by first | assumption | exact gs_at | (rw [gs_ne (by omega)]; (first | assumption | exact gs_at | (rw [gs_ne (by omega)]; (first | assumption | exact gs_at | (rw [gs_ne (by omega)]; (first | assumption | exact gs_at | (rw [gs_ne (by omega)]; (first | assumption | exact gs_at))))))))) (by simp) rfl rfl ?_
    refine w_vret dX8_remembers_96 rfl (Nat.le_of_ble_eq_true rfl) (Nat.le_of_ble_eq_true rfl) ?_
    refine ⟨rfl, a, ?_, by rw [show min 12 (rm + 1) = rm + 1 by omega]; exact hA.more hnw hne hPB hR hB k2 k1⟩
    rw [show min 12 (rm + 1) = rm + 1 by omega]; rfl
  · try simp (disch := omega) only [nI_b2, Decidable.not_not, nI_ltI, nI_leI, nI_eq, ge_iff_le, gt_iff_lt, ne_eq, Nat.not_lt, Nat.not_le] at c_6
    refine w_iconst (v := nI 0) dX8_remembers_9 (by decide) ?_
    refine w_istore_1 dX8_remembers_10 rfl ?_
    subst c_6
    have h := ml_rshift (E := E) (Q := fun o G1 => o = .inl none ∧ ∃ a, G1 = (gs (gs G (V + 4) (aI 4200 a)) V (mO V th hi (nI (min 12 (12 + 1))) tp ba en at_ fa dp io hm_ we sh so)) ∧ ActR a mm (min 12 (12 + 1)) ((nw + 1) % 12) (updP P ((nw + 1) % 12) (T, sd))) hV (mm := mm) (av := av) ?_ 3851 0 av (by omega) (by omega) (fun j hj => absurd hj (by omega)) (fun j _ => rfl)
    · rw [gs_id ha4] at h; exact h
    intro a1 k1 k2 z
    refine w_aload_n dX8_remembers_40 rfl ?_
    refine w_dup dX8_remembers_41 rfl ?_
    refine w_getf dX8_remembers_42 fl_X8_158 (by first | assumption | exact gs_at | (rw [gs_ne (by omega)]; (first | assumption | exact gs_at | (rw [gs_ne (by omega)]; (first | assumption | exact gs_at | (rw [gs_ne (by omega)]; (first | assumption | exact gs_at | (rw [gs_ne (by omega)]; (first | assumption | exact gs_at))))))))) rfl ?_
    refine w_iconst (v := nI 1) dX8_remembers_45 (by decide) ?_
    refine w_isubN (by decide) dX8_remembers_46 ?_
    refine w_putf dX8_remembers_47 fl_X8_158 (by first | assumption | exact gs_at | (rw [gs_ne (by omega)]; (first | assumption | exact gs_at | (rw [gs_ne (by omega)]; (first | assumption | exact gs_at | (rw [gs_ne (by omega)]; (first | assumption | exact gs_at | (rw [gs_ne (by omega)]; (first | assumption | exact gs_at))))))))) (by simp) rfl rfl ?_
    refine w_iconst (v := nI 0) dX8_remembers_50 (by decide) ?_
    refine w_istore_1 dX8_remembers_51 rfl ?_
    rw [gs_comm (a := V + 4) (b := V) (by omega)]
    refine ml_rcopy (ac := nI 11) (r := 11) (mm := mm) (av := a1) gs_at ((gs_ne (by omega)).trans hm) (by decide) rfl (fun a k3 k4 => ?_) 351 0 a1 (by omega) (by omega) (fun j hj => absurd hj (by omega)) (fun j _ => rfl)
    refine w_aload_n dX8_remembers_86 rfl ?_
    refine w_dup dX8_remembers_87 rfl ?_
    refine w_getf dX8_remembers_88 fl_X8_158 (by first | assumption | exact gs_at | (rw [gs_ne (by omega)]; (first | assumption | exact gs_at | (rw [gs_ne (by omega)]; (first | assumption | exact gs_at | (rw [gs_ne (by omega)]; (first | assumption | exact gs_at | (rw [gs_ne (by omega)]; (first | assumption | exact gs_at))))))))) rfl ?_
    refine w_iconst (v := nI 1) dX8_remembers_91 (by decide) ?_
    first | refine w_iaddN dX8_remembers_92 ?_ | refine w_iadd dX8_remembers_92 ?_
    refine w_putf dX8_remembers_93 fl_X8_158 (by first | assumption | exact gs_at | (rw [gs_ne (by omega)]; (first | assumption | exact gs_at | (rw [gs_ne (by omega)]; (first | assumption | exact gs_at | (rw [gs_ne (by omega)]; (first | assumption | exact gs_at | (rw [gs_ne (by omega)]; (first | assumption | exact gs_at))))))))) (by simp) rfl rfl ?_
    refine w_vret dX8_remembers_96 rfl (Nat.le_of_ble_eq_true rfl) (Nat.le_of_ble_eq_true rfl) ?_
    refine ⟨rfl, a, ?_, hA.full hnw hPB hR hB (fun j hj => (k4 j (by omega)).trans (k1 j hj)) k3⟩
    rw [gs_comm (a := V) (b := V + 4) (by omega), gs_gs]; rfl
