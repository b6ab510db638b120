/-! the model's whole state; its copies -/
theorem MoR.cg {mm nn : Nat → Int32} {T : ST} {sd : Int32} (h : MoR mm T sd) (hB : Bd T) (e : ∀ k, k < 350 → nn k = mm k) : MoR nn T sd := by
  obtain ⟨r0, r3, r4, r5, r6, r7, r9, r11, r12, r14, r20, r26, rL⟩ := h
  have b18 : T 12 6 ≤ 60 := hB.2.2.2.2.2.2.2.2.2.2.2.2.2.2.2.2.2.2.1
  refine ⟨?_, ?_, ?_, ?_, ?_, fun s hs => ?_, fun s hs => ?_, ?_, ?_, fun r hr => ?_, fun r hr => ?_, fun i w hi hw => ?_, fun a w ha hw => ?_⟩
  all_goals rw [e _ (by omega)]
  · exact r0
  · exact r3
  · exact r4
  · exact r5
  · exact r6
  · exact r7 s hs
  · exact r9 s hs
  · exact r11
  · exact r12
  · exact r14 r hr
  · exact r20 r hr
  · exact r26 i w hi hw
  · exact rL a w ha hw
def LwR (mm : Nat → Int32) (D : LD) : Prop := mm 1 = D.1 ∧ ((D.1 = -1 ∧ D.2.1 = 0) ∨ ∃ (y : Nat → Nat) (n : Nat) (X : LX) (ww : Nat → Int32) (wn : Nat) (dp : Int32), n ≤ 400 ∧ (∀ i, y i < 256) ∧ mm 2 = nI n ∧ (∀ i, i < n → mm (350 + i) = nI (y i)) ∧ (lawU y n X ww wn dp).1.2 = -1 ∧ toX D = (lawU y n X ww wn dp).2.1)
theorem LwR.keep {mm nn : Nat → Int32} {D : LD} (h : LwR mm D) (k : Keep mm nn) : LwR nn D := by
  obtain ⟨h1, h2⟩ := h
  refine ⟨k.1.trans h1, ?_⟩
  rcases h2 with h2 | ⟨y, n, X, ww, wn, dp, a1, a2, a3, a4, a5, a6⟩
  · exact Or.inl h2
  · exact Or.inr ⟨y, n, X, ww, wn, dp, a1, a2, k.2.1.trans a3, fun i hi => (k.2.2 _ (by omega)).trans (a4 i hi), a5, a6⟩
def ActR (ac mm : Nat → Int32) (rm nw : Nat) (P : Nat → ST × Int32) : Prop := ∀ j, j < rm → MoR (fun k => ac (350 * j + k)) (P ((nw + 13 + j - rm) % 12)).1 (P ((nw + 13 + j - rm) % 12)).2 ∧ ac (350 * j + 1) = mm 1 ∧ ac (350 * j + 2) = mm 2
theorem ActR.keep {ac mm nn : Nat → Int32} {rm nw : Nat} {P : Nat → ST × Int32} (h : ActR ac mm rm nw P) (k : Keep mm nn) : ActR ac nn rm nw P := fun j hj => ⟨(h j hj).1, (h j hj).2.1.trans k.1.symm, (h j hj).2.2.trans k.2.1.symm⟩
def HM (G : AH) (V : Nat) (th fa : Int32) (tn : Nat) (f : Nat → Nat) (T : ST) (sd : Int32) (D : LD) (im : Nat) (Ti : ST) (si : Int32) (Di : LD) (nw rm : Nat) (P : Nat → ST × Int32) : Prop :=
  (∃ ba en at_ dp io hm_ we sh so, G.1 V = some (mO V th (nI im) (nI rm) (nI tn) ba en at_ fa dp io hm_ we sh so)) ∧ (∃ mm, G.1 (V + 1) = some (aI 750 mm) ∧ MoR mm T sd ∧ LwR mm D ∧ ∃ ac, G.1 (V + 4) = some (aI 4200 ac) ∧ ActR ac mm rm nw P) ∧ (∃ kk, G.1 (V + 2) = some (aI 750 kk) ∧ (im = 1 → MoR kk Ti si ∧ LwR kk Di)) ∧ (∃ a : Nat → Int32, G.1 (V + 3) = some (aI 350 a)) ∧ G.1 (V + 5) = some (aI 400 (fun i => nI (f i))) ∧ (∃ a : Nat → Int32, G.1 (V + 6) = some (aI 7 a)) ∧ (∃ a : Nat → Int32, G.1 (V + 7) = some (aI 64 a)) ∧ ∃ a : Nat → Int32, G.1 (V + 8) = some (aZ 36 a)
theorem ml_aside {E : EV} {Q : OC → AH → Prop} {V : Nat} {th hi ac tp ba en at_ fa dp io hm_ we sh so : Int32} {G : AH} {mm : Nat → Int32} {av : Nat → Int32} (hV : G.1 V = some (mO V th hi ac tp ba en at_ fa dp io hm_ we sh so)) (hm : G.1 (V + 1) = some (aI 750 mm)) (hQ : ∀ a : Nat → Int32, (∀ j, j < 350 → a j = mm j) → (∀ j, 350 ≤ j → a j = av j) → Q (.inl none) (gs G (V + 3) (aI 350 a))) : ∀ (k i : Nat) (a : Nat → Int32), 350 - i < k → i ≤ 350 → (∀ j, j < i → a j = mm j) → (∀ j, i ≤ j → a j = av j) → Wp E 1 0 0 kX8_putsAside Q (gs G (V + 3) (aI 350 a)) (0, 0) 2 [.ref V, .int (nI i)] [] := by
  intro k
  induction k with
  | zero => intro i a h; exact absurd h (by omega)
  | succ k ih =>
    intro i a hk hi h1 h2
    refine w_iload_n dX8_putsAside_2 rfl ?_
    refine w_sipush (v := nI 350) dX8_putsAside_3 (by decide) ?_
    refine w_icmp_ge (tgt := 27) dX8_putsAside_6 (by decide) (fun c_6 => ?_) (fun c_6 => ?_)
    · try simp (disch := omega) only [nI_b2, Decidable.not_not, nI_ltI, nI_leI, nI_eq, ge_iff_le, gt_iff_lt, ne_eq, Nat.not_lt, Nat.not_le] at c_6
      refine w_vret dX8_putsAside_27 rfl (Nat.le_of_ble_eq_true rfl) (Nat.le_of_ble_eq_true rfl) ?_
      have e : i = 350 := by omega
      subst e
      exact hQ a h1 h2
    · try simp (disch := omega) only [nI_b2, Decidable.not_not, nI_ltI, nI_leI, nI_eq, ge_iff_le, gt_iff_lt, ne_eq, Nat.not_lt, Nat.not_le] at c_6
      refine w_aload_n dX8_putsAside_9 rfl ?_
      refine w_getf dX8_putsAside_10 fl_X8_16 (by first | assumption | exact gs_at | (rw [gs_ne (by omega)]; (first | assumption | exact gs_at | (rw [gs_ne (by omega)]; (first | assumption | exact gs_at | (rw [gs_ne (by omega)]; (first | assumption | exact gs_at | (rw [gs_ne (by omega)]; (first | assumption | exact gs_at))))))))) rfl ?_
      refine w_iload_n dX8_putsAside_13 rfl ?_
      refine w_aload_n dX8_putsAside_14 rfl ?_
      refine w_getf dX8_putsAside_15 fl_X8_7 (by first | assumption | exact gs_at | (rw [gs_ne (by omega)]; (first | assumption | exact gs_at | (rw [gs_ne (by omega)]; (first | assumption | exact gs_at | (rw [gs_ne (by omega)]; (first | assumption | exact gs_at | (rw [gs_ne (by omega)]; (first | assumption | exact gs_at))))))))) rfl ?_
      refine w_iload_n dX8_putsAside_18 rfl ?_
      refine w_iaload dX8_putsAside_19 (by first | assumption | exact gs_at | (rw [gs_ne (by omega)]; (first | assumption | exact gs_at | (rw [gs_ne (by omega)]; (first | assumption | exact gs_at | (rw [gs_ne (by omega)]; (first | assumption | exact gs_at | (rw [gs_ne (by omega)]; (first | assumption | exact gs_at))))))))) (by first | assumption | exact vp_in_nI (by omega) (by omega) | exact vp_in_nI (by assumption) (by omega)) ?_
      rw [nI_clamp (by omega)]
      refine w_iastore dX8_putsAside_20 (by first | assumption | exact gs_at | (rw [gs_ne (by omega)]; (first | assumption | exact gs_at | (rw [gs_ne (by omega)]; (first | assumption | exact gs_at | (rw [gs_ne (by omega)]; (first | assumption | exact gs_at | (rw [gs_ne (by omega)]; (first | assumption | exact gs_at))))))))) (by first | assumption | exact vp_in_nI (by omega) (by omega) | exact vp_in_nI (by assumption) (by omega)) ?_
      rw [nI_clamp (by omega)]
      rw [gs_gs]
      first | refine w_iinc_1 dX8_putsAside_21 (nI_inc _) rfl ?_ | refine w_iinc_1 dX8_putsAside_21 rfl rfl ?_
      refine w_goto (tgt := 2) dX8_putsAside_24 (by decide) ?_
      refine ih (i + 1) _ (by omega) (by omega) (fun j hj => ?_) (fun j hj => ?_)
      · by_cases e : j = i
        · subst e; exact upd_at
        · rw [upd_ne e]; exact h1 j (by omega)
      · rw [upd_ne (by omega)]; exact h2 j (by omega)
theorem m_putsAside {E : EV} {V : Nat} {th hi ac tp ba en at_ fa dp io hm_ we sh so : Int32} {G : AH} {mm : Nat → Int32} (hV : G.1 V = some (mO V th hi ac tp ba en at_ fa dp io hm_ we sh so)) (hm : G.1 (V + 1) = some (aI 750 mm)) (ha : ∃ a : Nat → Int32, G.1 (V + 3) = some (aI 350 a)) : Cd E 1 kX8_putsAside [.ref V] G (fun G1 => ∃ a : Nat → Int32, G1 = gs G (V + 3) (aI 350 a) ∧ ∀ j, j < 350 → a j = mm j) := by
  obtain ⟨a0, ha⟩ := ha
  refine Ct.intro rfl (by decide) [.ref V, .float 0] (by simp [Value.category]) (Nat.le_of_ble_eq_true rfl) rfl ?_
  refine w_iconst (v := nI 0) dX8_putsAside_0 (by decide) ?_
  refine w_istore_1 dX8_putsAside_1 rfl ?_
  have h := ml_aside (E := E) (Q := fun o G1 => o = .inl none ∧ ∃ a : Nat → Int32, G1 = gs G (V + 3) (aI 350 a) ∧ ∀ j, j < 350 → a j = mm j) hV hm (av := a0) (fun a h1 h2 => ⟨rfl, a, rfl, h1⟩) 351 0 a0 (by omega) (by omega) (fun j hj => absurd hj (by omega)) (fun j _ => rfl)
  rw [gs_id ha] at h
  exact h
theorem ml_cback {E : EV} {Q : OC → AH → Prop} {V : Nat} {th hi ac tp ba en at_ fa dp io hm_ we sh so : Int32} {G : AH} {mm : Nat → Int32} {av : Nat → Int32} (hV : G.1 V = some (mO V th hi ac tp ba en at_ fa dp io hm_ we sh so)) (ha : G.1 (V + 3) = some (aI 350 mm)) (hQ : ∀ a : Nat → Int32, (∀ j, j < 350 → a j = mm j) → (∀ j, 350 ≤ j → a j = av j) → Q (.inl none) (gs G (V + 1) (aI 750 a))) : ∀ (k i : Nat) (a : Nat → Int32), 350 - i < k → i ≤ 350 → (∀ j, j < i → a j = mm j) → (∀ j, i ≤ j → a j = av j) → Wp E 1 0 0 kX8_comesBack Q (gs G (V + 1) (aI 750 a)) (0, 0) 2 [.ref V, .int (nI i)] [] := by
  intro k
  induction k with
  | zero => intro i a h; exact absurd h (by omega)
  | succ k ih =>
    intro i a hk hi h1 h2
    refine w_iload_n dX8_comesBack_2 rfl ?_
    refine w_sipush (v := nI 350) dX8_comesBack_3 (by decide) ?_
    refine w_icmp_ge (tgt := 27) dX8_comesBack_6 (by decide) (fun c_6 => ?_) (fun c_6 => ?_)
    · try simp (disch := omega) only [nI_b2, Decidable.not_not, nI_ltI, nI_leI, nI_eq, ge_iff_le, gt_iff_lt, ne_eq, Nat.not_lt, Nat.not_le] at c_6
      refine w_vret dX8_comesBack_27 rfl (Nat.le_of_ble_eq_true rfl) (Nat.le_of_ble_eq_true rfl) ?_
      have e : i = 350 := by omega
      subst e
      exact hQ a h1 h2
    · try simp (disch := omega) only [nI_b2, Decidable.not_not, nI_ltI, nI_leI, nI_eq, ge_iff_le, gt_iff_lt, ne_eq, Nat.not_lt, Nat.not_le] at c_6
      refine w_aload_n dX8_comesBack_9 rfl ?_
      refine w_getf dX8_comesBack_10 fl_X8_7 (by first | assumption | exact gs_at | (rw [gs_ne (by omega)]; (first | assumption | exact gs_at | (rw [gs_ne (by omega)]; (first | assumption | exact gs_at | (rw [gs_ne (by omega)]; (first | assumption | exact gs_at | (rw [gs_ne (by omega)]; (first | assumption | exact gs_at))))))))) rfl ?_
      refine w_iload_n dX8_comesBack_13 rfl ?_
      refine w_aload_n dX8_comesBack_14 rfl ?_
      refine w_getf dX8_comesBack_15 fl_X8_16 (by first | assumption | exact gs_at | (rw [gs_ne (by omega)]; (first | assumption | exact gs_at | (rw [gs_ne (by omega)]; (first | assumption | exact gs_at | (rw [gs_ne (by omega)]; (first | assumption | exact gs_at | (rw [gs_ne (by omega)]; (first | assumption | exact gs_at))))))))) rfl ?_
      refine w_iload_n dX8_comesBack_18 rfl ?_
      refine w_iaload dX8_comesBack_19 (by first | assumption | exact gs_at | (rw [gs_ne (by omega)]; (first | assumption | exact gs_at | (rw [gs_ne (by omega)]; (first | assumption | exact gs_at | (rw [gs_ne (by omega)]; (first | assumption | exact gs_at | (rw [gs_ne (by omega)]; (first | assumption | exact gs_at))))))))) (by first | assumption | exact vp_in_nI (by omega) (by omega) | exact vp_in_nI (by assumption) (by omega)) ?_
      rw [nI_clamp (by omega)]
      refine w_iastore dX8_comesBack_20 (by first | assumption | exact gs_at | (rw [gs_ne (by omega)]; (first | assumption | exact gs_at | (rw [gs_ne (by omega)]; (first | assumption | exact gs_at | (rw [gs_ne (by omega)]; (first | assumption | exact gs_at | (rw [gs_ne (by omega)]; (first | assumption | exact gs_at))))))))) (by first | assumption | exact vp_in_nI (by omega) (by omega) | exact vp_in_nI (by assumption) (by omega)) ?_
      rw [nI_clamp (by omega)]
      rw [gs_gs]
      first | refine w_iinc_1 dX8_comesBack_21 (nI_inc _) rfl ?_ | refine w_iinc_1 dX8_comesBack_21 rfl rfl ?_
      refine w_goto (tgt := 2) dX8_comesBack_24 (by decide) ?_
      refine ih (i + 1) _ (by omega) (by omega) (fun j hj => ?_) (fun j hj => ?_)
      · by_cases e : j = i
        · subst e; exact upd_at
        · rw [upd_ne e]; exact h1 j (by omega)
      · rw [upd_ne (by omega)]; exact h2 j (by omega)
theorem m_comesBack {E : EV} {V : Nat} {th hi ac tp ba en at_ fa dp io hm_ we sh so : Int32} {G : AH} {mm : Nat → Int32} {av : Nat → Int32} (hV : G.1 V = some (mO V th hi ac tp ba en at_ fa dp io hm_ we sh so)) (hm : G.1 (V + 1) = some (aI 750 av)) (ha : G.1 (V + 3) = some (aI 350 mm)) : Cd E 1 kX8_comesBack [.ref V] G (fun G1 => ∃ a : Nat → Int32, G1 = gs G (V + 1) (aI 750 a) ∧ (∀ j, j < 350 → a j = mm j) ∧ ∀ j, 350 ≤ j → a j = av j) := by
  refine Ct.intro rfl (by decide) [.ref V, .float 0] (by simp [Value.category]) (Nat.le_of_ble_eq_true rfl) rfl ?_
  refine w_iconst (v := nI 0) dX8_comesBack_0 (by decide) ?_
  refine w_istore_1 dX8_comesBack_1 rfl ?_
  have h := ml_cback (E := E) (Q := fun o G1 => o = .inl none ∧ ∃ a : Nat → Int32, G1 = gs G (V + 1) (aI 750 a) ∧ (∀ j, j < 350 → a j = mm j) ∧ ∀ j, 350 ≤ j → a j = av j) hV ha (av := av) (fun a h1 h2 => ⟨rfl, a, rfl, h1, h2⟩) 351 0 av (by omega) (by omega) (fun j hj => absurd hj (by omega)) (fun j _ => rfl)
  rw [gs_id hm] at h
  exact h
theorem ml_rshift {E : EV} {Q : OC → AH → Prop} {V : Nat} {th hi ac tp ba en at_ fa dp io hm_ we sh so : Int32} {G : AH} {mm : Nat → Int32} {av : Nat → Int32} (hV : G.1 V = some (mO V th hi ac tp ba en at_ fa dp io hm_ we sh so))  (hQ : ∀ a : Nat → Int32, (∀ j, j < 3850 → a j = av (j + 350)) → (∀ j, 3850 ≤ j → a j = av j) → ∀ z : Value, Wp E 1 0 0 kX8_remembers Q (gs G (V + 4) (aI 4200 a)) (0, 0) 40 [.ref V, .int (nI 3850)] []) : ∀ (k i : Nat) (a : Nat → Int32), 3850 - i < k → i ≤ 3850 → (∀ j, j < i → a j = av (j + 350)) → (∀ j, i ≤ j → a j = av j) → Wp E 1 0 0 kX8_remembers Q (gs G (V + 4) (aI 4200 a)) (0, 0) 11 [.ref V, .int (nI i)] [] := by
  intro k
  induction k with
  | zero => intro i a h; exact absurd h (by omega)
  | succ k ih =>
    intro i a hk hi h1 h2
    refine w_iload_n dX8_remembers_11 rfl ?_
    refine w_sipush (v := nI 3850) dX8_remembers_12 (by decide) ?_
    refine w_icmp_ge (tgt := 40) dX8_remembers_15 (by decide) (fun c_15 => ?_) (fun c_15 => ?_)
    · try simp (disch := omega) only [nI_b2, Decidable.not_not, nI_ltI, nI_leI, nI_eq, ge_iff_le, gt_iff_lt, ne_eq, Nat.not_lt, Nat.not_le] at c_15
      have e : i = 3850 := by omega
      subst e
      exact hQ a h1 h2 (.float 0)
    · try simp (disch := omega) only [nI_b2, Decidable.not_not, nI_ltI, nI_leI, nI_eq, ge_iff_le, gt_iff_lt, ne_eq, Nat.not_lt, Nat.not_le] at c_15
      refine w_aload_n dX8_remembers_18 rfl ?_
      refine w_getf dX8_remembers_19 fl_X8_19 (by first | assumption | exact gs_at | (rw [gs_ne (by omega)]; (first | assumption | exact gs_at | (rw [gs_ne (by omega)]; (first | assumption | exact gs_at | (rw [gs_ne (by omega)]; (first | assumption | exact gs_at | (rw [gs_ne (by omega)]; (first | assumption | exact gs_at))))))))) rfl ?_
      refine w_iload_n dX8_remembers_22 rfl ?_
      refine w_aload_n dX8_remembers_23 rfl ?_
      refine w_getf dX8_remembers_24 fl_X8_19 (by first | assumption | exact gs_at | (rw [gs_ne (by omega)]; (first | assumption | exact gs_at | (rw [gs_ne (by omega)]; (first | assumption | exact gs_at | (rw [gs_ne (by omega)]; (first | assumption | exact gs_at | (rw [gs_ne (by omega)]; (first | assumption | exact gs_at))))))))) rfl ?_
      refine w_iload_n dX8_remembers_27 rfl ?_
      refine w_sipush (v := nI 350) dX8_remembers_28 (by decide) ?_
      first | refine w_iaddN dX8_remembers_31 ?_ | refine w_iadd dX8_remembers_31 ?_
      refine w_iaload dX8_remembers_32 (by first | assumption | exact gs_at | (rw [gs_ne (by omega)]; (first | assumption | exact gs_at | (rw [gs_ne (by omega)]; (first | assumption | exact gs_at | (rw [gs_ne (by omega)]; (first | assumption | exact gs_at | (rw [gs_ne (by omega)]; (first | assumption | exact gs_at))))))))) (by first | assumption | exact vp_in_nI (by omega) (by omega) | exact vp_in_nI (by assumption) (by omega)) ?_
      rw [nI_clamp (by omega)]
      rw [h2 _ (by omega)]
      refine w_iastore dX8_remembers_33 (by first | assumption | exact gs_at | (rw [gs_ne (by omega)]; (first | assumption | exact gs_at | (rw [gs_ne (by omega)]; (first | assumption | exact gs_at | (rw [gs_ne (by omega)]; (first | assumption | exact gs_at | (rw [gs_ne (by omega)]; (first | assumption | exact gs_at))))))))) (by first | assumption | exact vp_in_nI (by omega) (by omega) | exact vp_in_nI (by assumption) (by omega)) ?_
      rw [nI_clamp (by omega)]
      rw [gs_gs]
      first | refine w_iinc_1 dX8_remembers_34 (nI_inc _) rfl ?_ | refine w_iinc_1 dX8_remembers_34 rfl rfl ?_
      refine w_goto (tgt := 11) dX8_remembers_37 (by decide) ?_
      refine ih (i + 1) _ (by omega) (by omega) (fun j hj => ?_) (fun j hj => ?_)
      · by_cases e : j = i
        · subst e; exact upd_at
        · rw [upd_ne e]; exact h1 j (by omega)
      · rw [upd_ne (by omega)]; exact h2 j (by omega)
theorem ml_rcopy {E : EV} {Q : OC → AH → Prop} {V : Nat} {th hi ac tp ba en at_ fa dp io hm_ we sh so : Int32} {G : AH} {mm : Nat → Int32} {av : Nat → Int32} {r : Nat} (hV : G.1 V = some (mO V th hi ac tp ba en at_ fa dp io hm_ we sh so)) (hm : G.1 (V + 1) = some (aI 750 mm)) (hr : r < 12) (hac : ac = nI r) (hQ : ∀ a : Nat → Int32, (∀ j, j < 350 → a (350 * r + j) = mm j) → (∀ j, ¬ (350 * r ≤ j ∧ j < 350 * r + 350) → a j = av j) → Wp E 1 0 0 kX8_remembers Q (gs G (V + 4) (aI 4200 a)) (0, 0) 86 [.ref V, .int (nI 350)] []) : ∀ (k i : Nat) (a : Nat → Int32), 350 - i < k → i ≤ 350 → (∀ j, j < i → a (350 * r + j) = mm j) → (∀ j, ¬ (350 * r ≤ j ∧ j < 350 * r + i) → a j = av j) → Wp E 1 0 0 kX8_remembers Q (gs G (V + 4) (aI 4200 a)) (0, 0) 52 [.ref V, .int (nI i)] [] := by
  subst hac
  intro k
  induction k with
  | zero => intro i a h; exact absurd h (by omega)
  | succ k ih =>
    intro i a hk hi h1 h2
    refine w_iload_n dX8_remembers_52 rfl ?_
    refine w_sipush (v := nI 350) dX8_remembers_53 (by decide) ?_
    refine w_icmp_ge (tgt := 86) dX8_remembers_56 (by decide) (fun c_56 => ?_) (fun c_56 => ?_)
    · try simp (disch := omega) only [nI_b2, Decidable.not_not, nI_ltI, nI_leI, nI_eq, ge_iff_le, gt_iff_lt, ne_eq, Nat.not_lt, Nat.not_le] at c_56
      have e : i = 350 := by omega
      subst e
      exact hQ a h1 h2
    · try simp (disch := omega) only [nI_b2, Decidable.not_not, nI_ltI, nI_leI, nI_eq, ge_iff_le, gt_iff_lt, ne_eq, Nat.not_lt, Nat.not_le] at c_56
      refine w_aload_n dX8_remembers_59 rfl ?_
      refine w_getf dX8_remembers_60 fl_X8_19 (by first | assumption | exact gs_at | (rw [gs_ne (by omega)]; (first | assumption | exact gs_at | (rw [gs_ne (by omega)]; (first | assumption | exact gs_at | (rw [gs_ne (by omega)]; (first | assumption | exact gs_at | (rw [gs_ne (by omega)]; (first | assumption | exact gs_at))))))))) rfl ?_
      refine w_sipush (v := nI 350) dX8_remembers_63 (by decide) ?_
      refine w_aload_n dX8_remembers_66 rfl ?_
      refine w_getf dX8_remembers_67 fl_X8_158 (by first | assumption | exact gs_at | (rw [gs_ne (by omega)]; (first | assumption | exact gs_at | (rw [gs_ne (by omega)]; (first | assumption | exact gs_at | (rw [gs_ne (by omega)]; (first | assumption | exact gs_at | (rw [gs_ne (by omega)]; (first | assumption | exact gs_at))))))))) rfl ?_
      first | refine w_imulN dX8_remembers_70 ?_ | refine w_imul dX8_remembers_70 ?_
      refine w_iload_n dX8_remembers_71 rfl ?_
      first | refine w_iaddN dX8_remembers_72 ?_ | refine w_iadd dX8_remembers_72 ?_
      refine w_aload_n dX8_remembers_73 rfl ?_
      refine w_getf dX8_remembers_74 fl_X8_7 (by first | assumption | exact gs_at | (rw [gs_ne (by omega)]; (first | assumption | exact gs_at | (rw [gs_ne (by omega)]; (first | assumption | exact gs_at | (rw [gs_ne (by omega)]; (first | assumption | exact gs_at | (rw [gs_ne (by omega)]; (first | assumption | exact gs_at))))))))) rfl ?_
      refine w_iload_n dX8_remembers_77 rfl ?_
      refine w_iaload dX8_remembers_78 (by first | assumption | exact gs_at | (rw [gs_ne (by omega)]; (first | assumption | exact gs_at | (rw [gs_ne (by omega)]; (first | assumption | exact gs_at | (rw [gs_ne (by omega)]; (first | assumption | exact gs_at | (rw [gs_ne (by omega)]; (first | assumption | exact gs_at))))))))) (by first | assumption | exact vp_in_nI (by omega) (by omega) | exact vp_in_nI (by assumption) (by omega)) ?_
      rw [nI_clamp (by omega)]
      refine w_iastore dX8_remembers_79 (by first | assumption | exact gs_at | (rw [gs_ne (by omega)]; (first | assumption | exact gs_at | (rw [gs_ne (by omega)]; (first | assumption | exact gs_at | (rw [gs_ne (by omega)]; (first | assumption | exact gs_at | (rw [gs_ne (by omega)]; (first | assumption | exact gs_at))))))))) (by first | assumption | exact vp_in_nI (by omega) (by omega) | exact vp_in_nI (by assumption) (by omega)) ?_
      rw [nI_clamp (by omega)]
      rw [gs_gs]
      first | refine w_iinc_1 dX8_remembers_80 (nI_inc _) rfl ?_ | refine w_iinc_1 dX8_remembers_80 rfl rfl ?_
      refine w_goto (tgt := 52) dX8_remembers_83 (by decide) ?_
      refine ih (i + 1) _ (by omega) (by omega) (fun j hj => ?_) (fun j hj => ?_)
      · by_cases e : j = i
        · subst e; exact upd_at
        · rw [upd_ne (by omega)]; exact h1 j (by omega)
      · rw [upd_ne (by omega)]; exact h2 j (by omega)
