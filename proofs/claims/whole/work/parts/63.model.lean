/-! the model: storms, leaving -/
theorem ml_storm {E : EV} {Q : OC → AH → Prop} {V : Nat} {th hi ac tp ba en at_ fa dp io hm_ we sh so : Int32} {mm : Nat → Int32} {T : ST} {sd : Int32} {G : AH} {r : Nat} {s2 : Int32} (hV : G.1 V = some (mO V th hi ac tp ba en at_ fa dp io hm_ we sh so)) (hm : G.1 (V + 1) = some (aI 750 mm)) (hR : MoR mm T sd) (hB : Bd T) (hr : r < 6) (hQ : ∀ nn, MoR nn (wetT T r (T 12 0)) s2 → Keep mm nn → Q (.inl none) (gs G (V + 1) (aI 750 nn))) : ∀ (k i : Nat) (nn : Nat → Int32), T 12 0 - i < k → i ≤ T 12 0 → MoR nn (wetT T r i) (s2) → Keep mm nn → Wp E 2 0 0 kX8_storms Q (gs G (V + 1) (aI 750 nn)) (0, 0) 25 [.ref V, .int (nI r), .int (nI i)] [] := by
  intro k
  induction k with
  | zero => intro i nn h; exact absurd h (by omega)
  | succ k ih =>
    intro i nn hk hi hRn hKn
    have hV2 : (gs G (V + 1) (aI 750 nn)).1 V = _ := (gs_ne (by omega)).trans hV
    have hm2 : (gs G (V + 1) (aI 750 nn)).1 (V + 1) = some (aI 750 nn) := gs_at
    obtain ⟨r0, r3, r4, r5, r6, r7, r9, r11, r12, r14, r20, r26, rL⟩ := id hRn
    obtain ⟨b0, b1, b2_, b3, b4, b5, b6, b7, b8, b9, b10, b11, b12, b13, b14, b15, b16, b17, b18, b19⟩ := id hB
    have e12 : ∀ j, wetT T r i 12 j = T 12 j := fun j => wetT_ne T r (by decide) j i
    have hBn : Bd (wetT T r i) := hB.wet r i hi
    rw [e12] at r3
    have hn1 := hBn.2.2.1 i; have hn2 := hBn.2.2.2.1 i
    refine w_iload_n dX8_storms_25 rfl ?_
    refine w_aload_n dX8_storms_26 rfl ?_
    refine w_getf dX8_storms_27 fl_X8_7 (by first | assumption | exact gs_at | (rw [gs_ne (by omega)]; (first | assumption | exact gs_at | (rw [gs_ne (by omega)]; (first | assumption | exact gs_at | (rw [gs_ne (by omega)]; (first | assumption | exact gs_at | (rw [gs_ne (by omega)]; (first | assumption | exact gs_at))))))))) rfl ?_
    refine w_iconst (v := nI 3) dX8_storms_30 (by decide) ?_
    refine w_iaload dX8_storms_31 (by first | assumption | exact gs_at | (rw [gs_ne (by omega)]; (first | assumption | exact gs_at | (rw [gs_ne (by omega)]; (first | assumption | exact gs_at | (rw [gs_ne (by omega)]; (first | assumption | exact gs_at | (rw [gs_ne (by omega)]; (first | assumption | exact gs_at))))))))) (by first | assumption | exact vp_in_nI (by omega) (by omega) | exact vp_in_nI (by assumption) (by omega)) ?_
    rw [nI_clamp (by omega)]
    first | rw [r3] | rw [r4] | rw [r5] | rw [r6] | rw [r0] | rw [r11] | rw [r12] | rw [r7 _ (by omega)] | rw [r9 _ (by omega)] | rw [r14 _ (by omega)] | rw [r20 _ (by omega)] | rw [r26 _ _ (by omega) (by omega)] | skip
    refine w_icmp_ge (tgt := 70) dX8_storms_32 (by decide) (fun c_32 => ?_) (fun c_32 => ?_)
    · try simp (disch := omega) only [nI_b2, Decidable.not_not, nI_ltI, nI_leI, nI_eq, ge_iff_le, gt_iff_lt, ne_eq, Nat.not_lt, Nat.not_le] at c_32
      refine w_vret dX8_storms_70 rfl (Nat.le_of_ble_eq_true rfl) (Nat.le_of_ble_eq_true rfl) ?_
      have e : i = T 12 0 := by omega
      subst e
      exact hQ nn hRn hKn
    · try simp (disch := omega) only [nI_b2, Decidable.not_not, nI_ltI, nI_leI, nI_eq, ge_iff_le, gt_iff_lt, ne_eq, Nat.not_lt, Nat.not_le] at c_32
      refine w_aload_n dX8_storms_35 rfl ?_
      refine w_iload_n dX8_storms_36 rfl ?_
      refine w_iconst (v := nI 1) dX8_storms_37 (by decide) ?_
      refine wV2u dX8_storms_38 lk_X8_46 rfl (by first | assumption | exact gs_at | (rw [gs_ne (by omega)]; (first | assumption | exact gs_at | (rw [gs_ne (by omega)]; (first | assumption | exact gs_at | (rw [gs_ne (by omega)]; (first | assumption | exact gs_at | (rw [gs_ne (by omega)]; (first | assumption | exact gs_at))))))))) rfl rfl (m_of (w := 1) hV2 hm2 hRn hBn (by omega) (by decide)) (Nat.le_of_ble_eq_true rfl) (Nat.le_of_ble_eq_true rfl) (Nat.le_of_ble_eq_true rfl) (Nat.le_of_ble_eq_true rfl) ?_
      refine w_iload_n dX8_storms_41 rfl ?_
      refine w_icmp_ne (tgt := 64) dX8_storms_42 (by decide) (fun c_42 => ?_) (fun c_42 => ?_)
      · try simp (disch := omega) only [nI_b2, Decidable.not_not, nI_ltI, nI_leI, nI_eq, ge_iff_le, gt_iff_lt, ne_eq, Nat.not_lt, Nat.not_le] at c_42
        first | refine w_iinc_2 dX8_storms_64 (nI_inc _) rfl ?_ | refine w_iinc_2 dX8_storms_64 rfl rfl ?_
        refine w_goto (tgt := 25) dX8_storms_67 (by decide) ?_
        first
          | (refine ih (i + 1) _ (by omega) (by omega) ?_ hK2; rw [wetT, wetS, if_pos c_42]; exact hR2)
          | (refine ih (i + 1) _ (by omega) (by omega) ?_ hKn; rw [wetT, wetS, if_neg c_42]; exact hRn)
      · try simp (disch := omega) only [nI_b2, Decidable.not_not, nI_ltI, nI_leI, nI_eq, ge_iff_le, gt_iff_lt, ne_eq, Nat.not_lt, Nat.not_le] at c_42
        refine w_aload_n dX8_storms_45 rfl ?_
        refine w_iload_n dX8_storms_46 rfl ?_
        refine w_iconst (v := nI 2) dX8_storms_47 (by decide) ?_
        refine w_bipush (v := nI 99) dX8_storms_48 (by decide) ?_
        refine w_aload_n dX8_storms_50 rfl ?_
        refine w_iload_n dX8_storms_51 rfl ?_
        refine w_iconst (v := nI 2) dX8_storms_52 (by decide) ?_
        refine wV2u dX8_storms_53 lk_X8_46 rfl (by first | assumption | exact gs_at | (rw [gs_ne (by omega)]; (first | assumption | exact gs_at | (rw [gs_ne (by omega)]; (first | assumption | exact gs_at | (rw [gs_ne (by omega)]; (first | assumption | exact gs_at | (rw [gs_ne (by omega)]; (first | assumption | exact gs_at))))))))) rfl rfl (m_of (w := 2) hV2 hm2 hRn hBn (by omega) (by decide)) (Nat.le_of_ble_eq_true rfl) (Nat.le_of_ble_eq_true rfl) (Nat.le_of_ble_eq_true rfl) (Nat.le_of_ble_eq_true rfl) ?_
        refine w_iconst (v := nI 2) dX8_storms_56 (by decide) ?_
        first | refine w_iaddN dX8_storms_57 ?_ | refine w_iadd dX8_storms_57 ?_
        refine wS2u dX8_storms_58 lk_X8_222 rfl (m_lesser (by omega) (by omega)) (Nat.le_of_ble_eq_true rfl) (Nat.le_of_ble_eq_true rfl) (Nat.le_of_ble_eq_true rfl) (Nat.le_of_ble_eq_true rfl) ?_
        refine wV3n dX8_storms_61 lk_X8_103 rfl (by first | assumption | exact gs_at | (rw [gs_ne (by omega)]; (first | assumption | exact gs_at | (rw [gs_ne (by omega)]; (first | assumption | exact gs_at | (rw [gs_ne (by omega)]; (first | assumption | exact gs_at | (rw [gs_ne (by omega)]; (first | assumption | exact gs_at))))))))) rfl rfl (m_put (w := 2) hV2 hm2 hRn hBn (by omega) (by decide)) (Nat.le_of_ble_eq_true rfl) (Nat.le_of_ble_eq_true rfl) (Nat.le_of_ble_eq_true rfl) (Nat.le_of_ble_eq_true rfl) ?_
        rw [gs_gs]
        have hR2 := hRn.pi (i := i) (w := 2) (x := min 99 (wetT T r i 2 i + 2)) (by omega) (by decide)
        have hK2 := hKn.tr (Keep.up (mm := nn) (k := 26 + 7 * i + 2) (x := nI (min 99 (wetT T r i 2 i + 2))) (by omega) (by omega) (by omega))
        first | refine w_iinc_2 dX8_storms_64 (nI_inc _) rfl ?_ | refine w_iinc_2 dX8_storms_64 rfl rfl ?_
        refine w_goto (tgt := 25) dX8_storms_67 (by decide) ?_
        first
          | (refine ih (i + 1) _ (by omega) (by omega) ?_ hK2; rw [wetT, wetS, if_pos c_42]; exact hR2)
          | (refine ih (i + 1) _ (by omega) (by omega) ?_ hKn; rw [wetT, wetS, if_neg c_42]; exact hRn)
theorem m_storms {E : EV} {V : Nat} {th hi ac tp ba en at_ fa dp io hm_ we sh so : Int32} {mm : Nat → Int32} {T : ST} {sd : Int32} {G : AH}  (hV : G.1 V = some (mO V th hi ac tp ba en at_ fa dp io hm_ we sh so)) (hm : G.1 (V + 1) = some (aI 750 mm)) (hR : MoR mm T sd) (hB : Bd T)  : Cd E 2 kX8_storms [.ref V] G (fun G1 => ∃ nn, G1 = (gs G (V + 1) (aI 750 nn)) ∧ MoR nn (wthT T sd) (wthS T sd) ∧ Keep mm nn) := by
  obtain ⟨r0, r3, r4, r5, r6, r7, r9, r11, r12, r14, r20, r26, rL⟩ := id hR
  obtain ⟨b0, b1, b2_, b3, b4, b5, b6, b7, b8, b9, b10, b11, b12, b13, b14, b15, b16, b17, b18, b19⟩ := id hB
  refine Ct.intro rfl (by decide) [.ref V, .float 0, .float 0] (by simp [Value.category]) (Nat.le_of_ble_eq_true rfl) rfl ?_
  refine w_aload_n dX8_storms_0 rfl ?_
  refine w_bipush (v := nI 100) dX8_storms_1 (by decide) ?_
  refine wV1i dX8_storms_3 lk_X8_250 rfl (by first | assumption | exact gs_at | (rw [gs_ne (by omega)]; (first | assumption | exact gs_at | (rw [gs_ne (by omega)]; (first | assumption | exact gs_at | (rw [gs_ne (by omega)]; (first | assumption | exact gs_at | (rw [gs_ne (by omega)]; (first | assumption | exact gs_at))))))))) rfl rfl (m_draw (n := 100) hV hm hR hB (by decide) (by decide)) (Nat.le_of_ble_eq_true rfl) (Nat.le_of_ble_eq_true rfl) (Nat.le_of_ble_eq_true rfl) (Nat.le_of_ble_eq_true rfl) (fun r_3 G1 h_3 => ?_)
  obtain ⟨hr3, hG3⟩ := h_3
  subst hr3; subst hG3
  have hR1 := hR.seed (s2 := dN sd)
  have hV1 : (gs G (V + 1) (aI 750 (upd mm 12 (dN sd)))).1 V = _ := (gs_ne (by omega)).trans hV
  have hm1 : (gs G (V + 1) (aI 750 (upd mm 12 (dN sd)))).1 (V + 1) = _ := gs_at
  have hdl := drN_lt (dN sd)
  obtain ⟨-, -, -, r5, -⟩ := id hR1
  have hK1 : Keep mm (upd mm 12 (dN sd)) := Keep.up (by decide) (by decide) (by decide)
  refine w_aload_n dX8_storms_6 rfl ?_
  refine w_getf dX8_storms_7 fl_X8_7 (by first | assumption | exact gs_at | (rw [gs_ne (by omega)]; (first | assumption | exact gs_at | (rw [gs_ne (by omega)]; (first | assumption | exact gs_at | (rw [gs_ne (by omega)]; (first | assumption | exact gs_at | (rw [gs_ne (by omega)]; (first | assumption | exact gs_at))))))))) rfl ?_
  refine w_iconst (v := nI 5) dX8_storms_10 (by decide) ?_
  refine w_iaload dX8_storms_11 (by first | assumption | exact gs_at | (rw [gs_ne (by omega)]; (first | assumption | exact gs_at | (rw [gs_ne (by omega)]; (first | assumption | exact gs_at | (rw [gs_ne (by omega)]; (first | assumption | exact gs_at | (rw [gs_ne (by omega)]; (first | assumption | exact gs_at))))))))) (by first | assumption | exact vp_in_nI (by omega) (by omega) | exact vp_in_nI (by assumption) (by omega)) ?_
  rw [nI_clamp (by omega)]
  first | rw [r3] | rw [r4] | rw [r5] | rw [r6] | rw [r0] | rw [r11] | rw [r12] | rw [r7 _ (by omega)] | rw [r9 _ (by omega)] | rw [r14 _ (by omega)] | rw [r20 _ (by omega)] | rw [r26 _ _ (by omega) (by omega)] | skip
  refine w_icmp_lt (tgt := 16) dX8_storms_12 (by decide) (fun c_12 => ?_) (fun c_12 => ?_)
  · try simp (disch := omega) only [nI_b2, Decidable.not_not, nI_ltI, nI_leI, nI_eq, ge_iff_le, gt_iff_lt, ne_eq, Nat.not_lt, Nat.not_le] at c_12
    refine w_aload_n dX8_storms_16 rfl ?_
    refine w_bipush (v := nI 6) dX8_storms_17 (by decide) ?_
    refine wV1i dX8_storms_19 lk_X8_250 rfl (by first | assumption | exact gs_at | (rw [gs_ne (by omega)]; (first | assumption | exact gs_at | (rw [gs_ne (by omega)]; (first | assumption | exact gs_at | (rw [gs_ne (by omega)]; (first | assumption | exact gs_at | (rw [gs_ne (by omega)]; (first | assumption | exact gs_at))))))))) rfl rfl (m_draw (n := 6) hV1 hm1 hR1 hB (by decide) (by decide)) (Nat.le_of_ble_eq_true rfl) (Nat.le_of_ble_eq_true rfl) (Nat.le_of_ble_eq_true rfl) (Nat.le_of_ble_eq_true rfl) (fun r_19 G2 h_19 => ?_)
    obtain ⟨hr19, hG19⟩ := h_19
    subst hr19; subst hG19
    rw [gs_gs]
    refine w_istore_1 dX8_storms_22 rfl ?_
    refine w_iconst (v := nI 0) dX8_storms_23 (by decide) ?_
    refine w_istore_2 dX8_storms_24 rfl ?_
    exact ml_storm (s2 := wthS T sd) hV hm hR hB (Nat.mod_lt _ (by decide)) (fun nn a b => ⟨rfl, nn, rfl, by rw [wthT, if_pos c_12]; exact a, b⟩) (T 12 0 + 1) 0 _ (by omega) (by omega) (by rw [wthS, if_pos c_12]; exact hR1.seed) (hK1.tr (Keep.up (by decide) (by decide) (by decide)))
  · try simp (disch := omega) only [nI_b2, Decidable.not_not, nI_ltI, nI_leI, nI_eq, ge_iff_le, gt_iff_lt, ne_eq, Nat.not_lt, Nat.not_le] at c_12
    refine w_vret dX8_storms_15 rfl (Nat.le_of_ble_eq_true rfl) (Nat.le_of_ble_eq_true rfl) ?_
    exact ⟨rfl, _, rfl, by rw [wthT, if_neg (Nat.not_lt.mpr c_12), wthS, if_neg (Nat.not_lt.mpr c_12)]; exact hR1, hK1⟩
theorem tu_cm {T : ST} {a b x c d y : Nat} (h : a ≠ c) : tu (tu T a b x) c d y = tu (tu T c d y) a b x := by
  funext g j
  unfold tu
  by_cases h1 : g = c ∧ j = d
  · rw [if_pos h1, if_neg (fun h2 => h (h2.1.symm.trans h1.1)), if_pos h1]
  · rw [if_neg h1]
    by_cases h2 : g = a ∧ j = b
    · rw [if_pos h2, if_pos h2]
    · rw [if_neg h2, if_neg h2, if_neg h1]
theorem add_cm {T : ST} {k v d s g m : Nat} : addT (tu T 10 k v) d s g m = tu (addT T d s g m) 10 k v := by
  unfold addT
  rw [tu_ne1 T _ _ _ (show 12 ≠ 10 by decide), tu_ne1 T _ _ _ (show 12 ≠ 10 by decide)]
  rw [tu_cm (show 10 ≠ 12 by decide), tu_cm (show 10 ≠ 12 by decide), tu_cm (show 10 ≠ 11 by decide), tu_cm (show 10 ≠ 11 by decide), tu_cm (show 10 ≠ 11 by decide), tu_cm (show 10 ≠ 11 by decide)]
theorem addT_11 {T : ST} {d s g m x : Nat} : addT T d s g m 11 x = if x = (T 12 5 + 1) % 60 * 4 + 3 then m else if x = (T 12 5 + 1) % 60 * 4 + 2 then g else if x = (T 12 5 + 1) % 60 * 4 + 1 then s else if x = (T 12 5 + 1) % 60 * 4 then d else T 11 x := by
  unfold addT tu
  simp
theorem addT_nq {T : ST} {d s g m f x : Nat} (h : f ≠ 11) (h2 : ¬ (f = 12 ∧ (x = 5 ∨ x = 6))) : addT T d s g m f x = T f x := by
  unfold addT
  rw [tu_ne1 _ _ _ _ h, tu_ne1 _ _ _ _ h, tu_ne1 _ _ _ _ h, tu_ne1 _ _ _ _ h]
  unfold tu
  rw [if_neg (fun h3 => h2 ⟨h3.1, Or.inr h3.2⟩), if_neg (fun h3 => h2 ⟨h3.1, Or.inl h3.2⟩)]
theorem addT_5 {T : ST} {d s g m : Nat} : addT T d s g m 12 5 = (T 12 5 + 1) % 60 ∧ addT T d s g m 12 6 = min 60 (T 12 6 + 1) := by
  unfold addT tu
  simp
theorem MoR.log {mm nn : Nat → Int32} {T : ST} {sd : Int32} {d s g m : Nat} (h : MoR mm T sd) (hB : Bd T) (h4 : ∀ k, 4 ≤ k → k < 240 → nn (110 + k) = mm (110 + k - 4)) (e0 : nn 110 = nI d) (e1 : nn 111 = nI s) (e2 : nn 112 = nI g) (e3 : nn 113 = nI m) (e11 : nn 11 = nI (min 60 (T 12 6 + 1))) (e : ∀ j, j < 110 → j ≠ 11 → nn j = mm j) : MoR nn (addT T d s g m) sd := by
  obtain ⟨r0, r3, r4, r5, r6, r7, r9, r11, r12, r14, r20, r26, rL⟩ := h
  have h5 : T 12 5 < 60 := hB.2.2.2.2.2.2.2.2.2.2.2.2.2.2.2.2.2.1
  refine ⟨?_, ?_, ?_, ?_, ?_, fun j hj => ?_, fun j hj => ?_, ?_, ?_, fun r hr => ?_, fun r hr => ?_, fun j v hj hv => ?_, fun a w ha hw => ?_⟩
  · rw [e _ (by omega) (by omega), addT_nq (by omega) (by omega)]; exact r0
  · rw [e _ (by omega) (by omega), addT_nq (by omega) (by omega)]; exact r3
  · rw [e _ (by omega) (by omega), addT_nq (by omega) (by omega)]; exact r4
  · rw [e _ (by omega) (by omega), addT_nq (by omega) (by omega)]; exact r5
  · rw [e _ (by omega) (by omega), addT_nq (by omega) (by omega)]; exact r6
  · rw [e _ (by omega) (by omega), addT_nq (by omega) (by omega)]; exact r7 j hj
  · rw [e _ (by omega) (by omega), addT_nq (by omega) (by omega)]; exact r9 j hj
  · rw [addT_5.2]; exact e11
  · rw [e _ (by omega) (by omega)]; exact r12
  · rw [e _ (by omega) (by omega), addT_nq (by omega) (by omega)]; exact r14 r hr
  · rw [e _ (by omega) (by omega), addT_nq (by omega) (by omega)]; exact r20 r hr
  · rw [e _ (by omega) (by omega), addT_nq (by omega) (by omega)]; exact r26 j v hj hv
  · rw [addT_5.2] at ha
    unfold lgC
    rw [addT_5.1, addT_11]
    by_cases ha0 : a = 0
    · subst ha0
      rw [show ((T 12 5 + 1) % 60 + 60 - 0) % 60 = (T 12 5 + 1) % 60 by omega]
      rcases (show w = 0 ∨ w = 1 ∨ w = 2 ∨ w = 3 by omega) with h | h | h | h <;> subst h
      · rw [if_neg (by omega), if_neg (by omega), if_neg (by omega), if_pos (by omega)]; exact e0
      · rw [if_neg (by omega), if_neg (by omega), if_pos (by omega)]; exact e1
      · rw [if_neg (by omega), if_pos (by omega)]; exact e2
      · rw [if_pos (by omega)]; exact e3
    · have hrow : ((T 12 5 + 1) % 60 + 60 - a) % 60 = (T 12 5 + 60 - (a - 1)) % 60 := by omega
      have hne : ((T 12 5 + 1) % 60 + 60 - a) % 60 ≠ (T 12 5 + 1) % 60 := by omega
      rw [if_neg (by omega), if_neg (by omega), if_neg (by omega), if_neg (by omega), hrow]
      have h9 := rL (a - 1) w (by omega) hw
      have h8 := h4 (4 * a + w) (by omega) (by omega)
      rw [show 110 + 4 * a + w = 110 + (4 * a + w) by omega, h8, show 110 + (4 * a + w) - 4 = 110 + 4 * (a - 1) + w by omega]
      exact h9
/-- the log shifted from k + 1 on -/
def shL (mm nn : Nat → Int32) (k : Nat) : Prop := (∀ j, k < j → j < 240 → nn (110 + j) = mm (110 + j - 4)) ∧ ∀ j, ¬ (110 + k < j ∧ j < 350) → nn j = mm j
theorem shL.up {mm nn : Nat → Int32} {k : Nat} (h : shL mm nn k) (hk : 4 ≤ k) (hk2 : k < 240) : shL mm (upd nn (110 + k) (nn (110 + k - 4))) (k - 1) := by
  refine ⟨fun j h1 h2 => ?_, fun j hj => ?_⟩
  · by_cases e : j = k
    · subst e; rw [upd_at]; exact h.2 _ (by omega)
    · rw [upd_ne (by omega)]; exact h.1 j (by omega) h2
  · rw [upd_ne (by omega)]; exact h.2 j (by omega)
theorem ml_shift {E : EV} {Q : OC → AH → Prop} {V : Nat} {G : AH} {mm : Nat → Int32} {x y : Value} {z th hi ac tp ba en at_ fa dp io hm_ we sh so : Int32} (hV : G.1 V = some (mO V th hi ac tp ba en at_ fa dp io hm_ we sh so)) (kk : ∀ (nn : Nat → Int32) (w : Value), shL mm nn 3 → Wp E 5 0 0 kX8_leaves Q (gs G (V + 1) (aI 750 nn)) (0, 0) 80 [.ref V, x, y, .int z, w] []) : ∀ (k : Nat) (nn : Nat → Int32), k < 240 → 3 ≤ k → shL mm nn k → Wp E 5 0 0 kX8_leaves Q (gs G (V + 1) (aI 750 nn)) (0, 0) 46 [.ref V, x, y, .int z, .int (nI k)] [] := by
  intro k
  induction k with
  | zero => intro nn h1 h2; exact absurd h2 (by omega)
  | succ k ih =>
    intro nn h1 h2 hS
    have hV2 : (gs G (V + 1) (aI 750 nn)).1 V = _ := (gs_ne (by omega)).trans hV
    refine w_iload dX8_leaves_46 rfl ?_
    refine w_iconst (v := nI 4) dX8_leaves_48 (by decide) ?_
    refine w_icmp_lt (tgt := 80) dX8_leaves_49 (by decide) (fun c_49 => ?_) (fun c_49 => ?_)
    · try simp (disch := omega) only [nI_b2, Decidable.not_not, nI_ltI, nI_leI, nI_eq, ge_iff_le, gt_iff_lt, ne_eq, Nat.not_lt, Nat.not_le] at c_49
      have e : k = 2 := by omega
      subst e
      exact kk nn _ hS
    · try simp (disch := omega) only [nI_b2, Decidable.not_not, nI_ltI, nI_leI, nI_eq, ge_iff_le, gt_iff_lt, ne_eq, Nat.not_lt, Nat.not_le] at c_49
      refine w_aload_n dX8_leaves_52 rfl ?_
      refine w_getf dX8_leaves_53 fl_X8_7 (by first | assumption | exact gs_at | (rw [gs_ne (by omega)]; (first | assumption | exact gs_at | (rw [gs_ne (by omega)]; (first | assumption | exact gs_at | (rw [gs_ne (by omega)]; (first | assumption | exact gs_at | (rw [gs_ne (by omega)]; (first | assumption | exact gs_at))))))))) rfl ?_
      refine w_bipush (v := nI 110) dX8_leaves_56 (by decide) ?_
      refine w_iload dX8_leaves_58 rfl ?_
      first | refine w_iaddN dX8_leaves_60 ?_ | refine w_iadd dX8_leaves_60 ?_
      refine w_aload_n dX8_leaves_61 rfl ?_
      refine w_getf dX8_leaves_62 fl_X8_7 (by first | assumption | exact gs_at | (rw [gs_ne (by omega)]; (first | assumption | exact gs_at | (rw [gs_ne (by omega)]; (first | assumption | exact gs_at | (rw [gs_ne (by omega)]; (first | assumption | exact gs_at | (rw [gs_ne (by omega)]; (first | assumption | exact gs_at))))))))) rfl ?_
      refine w_bipush (v := nI 110) dX8_leaves_65 (by decide) ?_
      refine w_iload dX8_leaves_67 rfl ?_
      first | refine w_iaddN dX8_leaves_69 ?_ | refine w_iadd dX8_leaves_69 ?_
      refine w_iconst (v := nI 4) dX8_leaves_70 (by decide) ?_
      refine w_isubN (by omega) dX8_leaves_71 ?_
      refine w_iaload dX8_leaves_72 (by first | assumption | exact gs_at | (rw [gs_ne (by omega)]; (first | assumption | exact gs_at | (rw [gs_ne (by omega)]; (first | assumption | exact gs_at | (rw [gs_ne (by omega)]; (first | assumption | exact gs_at | (rw [gs_ne (by omega)]; (first | assumption | exact gs_at))))))))) (by first | assumption | exact vp_in_nI (by omega) (by omega) | exact vp_in_nI (by assumption) (by omega)) ?_
      rw [nI_clamp (by omega)]
      refine w_iastore dX8_leaves_73 (by first | assumption | exact gs_at | (rw [gs_ne (by omega)]; (first | assumption | exact gs_at | (rw [gs_ne (by omega)]; (first | assumption | exact gs_at | (rw [gs_ne (by omega)]; (first | assumption | exact gs_at | (rw [gs_ne (by omega)]; (first | assumption | exact gs_at))))))))) (by first | assumption | exact vp_in_nI (by omega) (by omega) | exact vp_in_nI (by assumption) (by omega)) ?_
      rw [nI_clamp (by omega)]
      rw [gs_gs]
      refine w_iinc_4 dX8_leaves_74 (dec_N k) rfl ?_
      refine w_goto (tgt := 46) dX8_leaves_77 (by decide) ?_
      have h9 := hS.up (by omega) h1
      rw [Nat.add_sub_cancel] at h9
      exact ih _ (by omega) (by omega) h9
theorem lev_eq {T : ST} : leavT T = takeT (addT (tu T 10 (thereN T) (min 9999 (T 10 (thereN T) + dueN T))) (T 12 3) (thereN T) (cntN 12 (bitN (mis T) (T 12 0))) (dueN T)) := by
  unfold leavT
  rw [add_cm]
theorem thereN_lt (T : ST) : thereN T < 2 := by unfold thereN; split <;> decide
theorem m_leaves {E : EV} {V : Nat} {th hi ac tp ba en at_ fa dp io hm_ we sh so : Int32} {mm : Nat → Int32} {T : ST} {sd : Int32} {G : AH}  (hV : G.1 V = some (mO V th hi ac tp ba en at_ fa dp io hm_ we sh so)) (hm : G.1 (V + 1) = some (aI 750 mm)) (hR : MoR mm T sd) (hB : Bd T)  : Cd E 5 kX8_leaves [.ref V] G (fun G1 => ∃ nn, G1 = (gs G (V + 1) (aI 750 nn)) ∧ MoR nn (leavT T) (sd) ∧ Keep mm nn) := by
  obtain ⟨r0, r3, r4, r5, r6, r7, r9, r11, r12, r14, r20, r26, rL⟩ := id hR
  obtain ⟨b0, b1, b2_, b3, b4, b5, b6, b7, b8, b9, b10, b11, b12, b13, b14, b15, b16, b17, b18, b19⟩ := id hB
  have htl := thereN_lt T
  have hdu := due_le hB
  have hb11 := b11 (thereN T)
  have hbt := bitN_12 (mis T) b0
  refine Ct.intro rfl (by decide) [.ref V, .float 0, .float 0, .float 0, .float 0] (by simp [Value.category]) (Nat.le_of_ble_eq_true rfl) rfl ?_
  refine w_aload_n dX8_leaves_0 rfl ?_
  refine wV0u dX8_leaves_1 lk_X8_216 rfl (by first | assumption | exact gs_at | (rw [gs_ne (by omega)]; (first | assumption | exact gs_at | (rw [gs_ne (by omega)]; (first | assumption | exact gs_at | (rw [gs_ne (by omega)]; (first | assumption | exact gs_at | (rw [gs_ne (by omega)]; (first | assumption | exact gs_at))))))))) rfl rfl (m_there hV hm hR hB) (Nat.le_of_ble_eq_true rfl) (Nat.le_of_ble_eq_true rfl) (Nat.le_of_ble_eq_true rfl) (Nat.le_of_ble_eq_true rfl) ?_
  refine w_istore_1 dX8_leaves_4 rfl ?_
  refine w_aload_n dX8_leaves_5 rfl ?_
  refine wV0u dX8_leaves_6 lk_X8_253 rfl (by first | assumption | exact gs_at | (rw [gs_ne (by omega)]; (first | assumption | exact gs_at | (rw [gs_ne (by omega)]; (first | assumption | exact gs_at | (rw [gs_ne (by omega)]; (first | assumption | exact gs_at | (rw [gs_ne (by omega)]; (first | assumption | exact gs_at))))))))) rfl rfl (m_missingOnes hV hm hR hB) (Nat.le_of_ble_eq_true rfl) (Nat.le_of_ble_eq_true rfl) (Nat.le_of_ble_eq_true rfl) (Nat.le_of_ble_eq_true rfl) ?_
  refine w_istore_2 dX8_leaves_9 rfl ?_
  refine w_aload_n dX8_leaves_10 rfl ?_
  refine wV0u dX8_leaves_11 lk_X8_259 rfl (by first | assumption | exact gs_at | (rw [gs_ne (by omega)]; (first | assumption | exact gs_at | (rw [gs_ne (by omega)]; (first | assumption | exact gs_at | (rw [gs_ne (by omega)]; (first | assumption | exact gs_at | (rw [gs_ne (by omega)]; (first | assumption | exact gs_at))))))))) rfl rfl (m_owedNow hV hm hR hB) (Nat.le_of_ble_eq_true rfl) (Nat.le_of_ble_eq_true rfl) (Nat.le_of_ble_eq_true rfl) (Nat.le_of_ble_eq_true rfl) ?_
  refine w_istore_3 dX8_leaves_14 rfl ?_
  refine w_aload_n dX8_leaves_15 rfl ?_
  refine w_getf dX8_leaves_16 fl_X8_7 (by first | assumption | exact gs_at | (rw [gs_ne (by omega)]; (first | assumption | exact gs_at | (rw [gs_ne (by omega)]; (first | assumption | exact gs_at | (rw [gs_ne (by omega)]; (first | assumption | exact gs_at | (rw [gs_ne (by omega)]; (first | assumption | exact gs_at))))))))) rfl ?_
  refine w_bipush (v := nI 9) dX8_leaves_19 (by decide) ?_
  refine w_iload_n dX8_leaves_21 rfl ?_
  first | refine w_iaddN dX8_leaves_22 ?_ | refine w_iadd dX8_leaves_22 ?_
  refine w_sipush (v := nI 9999) dX8_leaves_23 (by decide) ?_
  refine w_aload_n dX8_leaves_26 rfl ?_
  refine w_getf dX8_leaves_27 fl_X8_7 (by first | assumption | exact gs_at | (rw [gs_ne (by omega)]; (first | assumption | exact gs_at | (rw [gs_ne (by omega)]; (first | assumption | exact gs_at | (rw [gs_ne (by omega)]; (first | assumption | exact gs_at | (rw [gs_ne (by omega)]; (first | assumption | exact gs_at))))))))) rfl ?_
  refine w_bipush (v := nI 9) dX8_leaves_30 (by decide) ?_
  refine w_iload_n dX8_leaves_32 rfl ?_
  first | refine w_iaddN dX8_leaves_33 ?_ | refine w_iadd dX8_leaves_33 ?_
  refine w_iaload dX8_leaves_34 (by first | assumption | exact gs_at | (rw [gs_ne (by omega)]; (first | assumption | exact gs_at | (rw [gs_ne (by omega)]; (first | assumption | exact gs_at | (rw [gs_ne (by omega)]; (first | assumption | exact gs_at | (rw [gs_ne (by omega)]; (first | assumption | exact gs_at))))))))) (by first | assumption | exact vp_in_nI (by omega) (by omega) | exact vp_in_nI (by assumption) (by omega)) ?_
  rw [nI_clamp (by omega)]
  rw [r9 _ (by omega)]
  refine w_iload_n dX8_leaves_35 rfl ?_
  first | refine w_iaddN dX8_leaves_36 ?_ | refine w_iadd dX8_leaves_36 ?_
  refine wS2u dX8_leaves_37 lk_X8_222 rfl (m_lesser (a := 9999) (by omega) (by omega)) (Nat.le_of_ble_eq_true rfl) (Nat.le_of_ble_eq_true rfl) (Nat.le_of_ble_eq_true rfl) (Nat.le_of_ble_eq_true rfl) ?_
  refine w_iastore dX8_leaves_40 (by first | assumption | exact gs_at | (rw [gs_ne (by omega)]; (first | assumption | exact gs_at | (rw [gs_ne (by omega)]; (first | assumption | exact gs_at | (rw [gs_ne (by omega)]; (first | assumption | exact gs_at | (rw [gs_ne (by omega)]; (first | assumption | exact gs_at))))))))) (by first | assumption | exact vp_in_nI (by omega) (by omega) | exact vp_in_nI (by assumption) (by omega)) ?_
  rw [nI_clamp (by omega)]
  refine w_sipush (v := nI 239) dX8_leaves_41 (by decide) ?_
  refine w_istore_4 dX8_leaves_44 rfl ?_
  have hR1 := hR.p10 (i := thereN T) (x := (min 9999 (T 10 (thereN T) + dueN T))) htl
  have hK1 : Keep mm (upd mm (9 + thereN T) (nI (min 9999 (T 10 (thereN T) + dueN T)))) := Keep.up (by omega) (by omega) (by omega)
  refine ml_shift (mm := upd mm (9 + thereN T) (nI (min 9999 (T 10 (thereN T) + dueN T)))) hV (fun nn w hS => ?_) 239 _ (by omega) (by omega) ⟨fun j h1 h2 => absurd h2 (by omega), fun j hj => rfl⟩
  refine w_aload_n dX8_leaves_80 rfl ?_
  refine w_getf dX8_leaves_81 fl_X8_7 (show (gs G (V + 1) (aI 750 nn)).1 V = _ from (gs_ne (by omega)).trans hV) rfl ?_
  refine w_bipush (v := nI 110) dX8_leaves_84 (by decide) ?_
  refine w_aload_n dX8_leaves_86 rfl ?_
  refine w_getf dX8_leaves_87 fl_X8_7 (by first | assumption | exact gs_at | (rw [gs_ne (by omega)]; (first | assumption | exact gs_at | (rw [gs_ne (by omega)]; (first | assumption | exact gs_at | (rw [gs_ne (by omega)]; (first | assumption | exact gs_at | (rw [gs_ne (by omega)]; (first | assumption | exact gs_at))))))))) rfl ?_
  refine w_iconst (v := nI 4) dX8_leaves_90 (by decide) ?_
  refine w_iaload dX8_leaves_91 (by first | assumption | exact gs_at | (rw [gs_ne (by omega)]; (first | assumption | exact gs_at | (rw [gs_ne (by omega)]; (first | assumption | exact gs_at | (rw [gs_ne (by omega)]; (first | assumption | exact gs_at | (rw [gs_ne (by omega)]; (first | assumption | exact gs_at))))))))) (by first | assumption | exact vp_in_nI (by omega) (by omega) | exact vp_in_nI (by assumption) (by omega)) ?_
  rw [nI_clamp (by omega)]
  rw [hS.2 4 (by omega)]
  rw [show upd mm (9 + thereN T) (nI (min 9999 (T 10 (thereN T) + dueN T))) 4 = nI (T 12 3) from by rw [upd_ne (by omega)]; exact r4]
  refine w_iastore dX8_leaves_92 (by first | assumption | exact gs_at | (rw [gs_ne (by omega)]; (first | assumption | exact gs_at | (rw [gs_ne (by omega)]; (first | assumption | exact gs_at | (rw [gs_ne (by omega)]; (first | assumption | exact gs_at | (rw [gs_ne (by omega)]; (first | assumption | exact gs_at))))))))) (by first | assumption | exact vp_in_nI (by omega) (by omega) | exact vp_in_nI (by assumption) (by omega)) ?_
  rw [nI_clamp (by omega)]
  rw [gs_gs]
  refine w_aload_n dX8_leaves_93 rfl ?_
  refine w_getf dX8_leaves_94 fl_X8_7 (by first | assumption | exact gs_at | (rw [gs_ne (by omega)]; (first | assumption | exact gs_at | (rw [gs_ne (by omega)]; (first | assumption | exact gs_at | (rw [gs_ne (by omega)]; (first | assumption | exact gs_at | (rw [gs_ne (by omega)]; (first | assumption | exact gs_at))))))))) rfl ?_
  refine w_bipush (v := nI 111) dX8_leaves_97 (by decide) ?_
  refine w_iload_n dX8_leaves_99 rfl ?_
  refine w_iastore dX8_leaves_100 (by first | assumption | exact gs_at | (rw [gs_ne (by omega)]; (first | assumption | exact gs_at | (rw [gs_ne (by omega)]; (first | assumption | exact gs_at | (rw [gs_ne (by omega)]; (first | assumption | exact gs_at | (rw [gs_ne (by omega)]; (first | assumption | exact gs_at))))))))) (by first | assumption | exact vp_in_nI (by omega) (by omega) | exact vp_in_nI (by assumption) (by omega)) ?_
  rw [nI_clamp (by omega)]
  rw [gs_gs]
  refine w_aload_n dX8_leaves_101 rfl ?_
  refine w_getf dX8_leaves_102 fl_X8_7 (by first | assumption | exact gs_at | (rw [gs_ne (by omega)]; (first | assumption | exact gs_at | (rw [gs_ne (by omega)]; (first | assumption | exact gs_at | (rw [gs_ne (by omega)]; (first | assumption | exact gs_at | (rw [gs_ne (by omega)]; (first | assumption | exact gs_at))))))))) rfl ?_
  refine w_bipush (v := nI 112) dX8_leaves_105 (by decide) ?_
  refine w_iload_n dX8_leaves_107 rfl ?_
  refine wS1u dX8_leaves_108 lk_X8_262 rfl (m_bits hbt) (Nat.le_of_ble_eq_true rfl) (Nat.le_of_ble_eq_true rfl) (Nat.le_of_ble_eq_true rfl) (Nat.le_of_ble_eq_true rfl) ?_
  refine w_iastore dX8_leaves_111 (by first | assumption | exact gs_at | (rw [gs_ne (by omega)]; (first | assumption | exact gs_at | (rw [gs_ne (by omega)]; (first | assumption | exact gs_at | (rw [gs_ne (by omega)]; (first | assumption | exact gs_at | (rw [gs_ne (by omega)]; (first | assumption | exact gs_at))))))))) (by first | assumption | exact vp_in_nI (by omega) (by omega) | exact vp_in_nI (by assumption) (by omega)) ?_
  rw [nI_clamp (by omega)]
  rw [gs_gs]
  refine w_aload_n dX8_leaves_112 rfl ?_
  refine w_getf dX8_leaves_113 fl_X8_7 (by first | assumption | exact gs_at | (rw [gs_ne (by omega)]; (first | assumption | exact gs_at | (rw [gs_ne (by omega)]; (first | assumption | exact gs_at | (rw [gs_ne (by omega)]; (first | assumption | exact gs_at | (rw [gs_ne (by omega)]; (first | assumption | exact gs_at))))))))) rfl ?_
  refine w_bipush (v := nI 113) dX8_leaves_116 (by decide) ?_
  refine w_iload_n dX8_leaves_118 rfl ?_
  refine w_iastore dX8_leaves_119 (by first | assumption | exact gs_at | (rw [gs_ne (by omega)]; (first | assumption | exact gs_at | (rw [gs_ne (by omega)]; (first | assumption | exact gs_at | (rw [gs_ne (by omega)]; (first | assumption | exact gs_at | (rw [gs_ne (by omega)]; (first | assumption | exact gs_at))))))))) (by first | assumption | exact vp_in_nI (by omega) (by omega) | exact vp_in_nI (by assumption) (by omega)) ?_
  rw [nI_clamp (by omega)]
  rw [gs_gs]
  have x11 : upd (upd (upd (upd nn 110 (nI (T 12 3))) 111 (nI (thereN T))) 112 (nI (cntN 12 (bitN (mis T) (T 12 0))))) 113 (nI (dueN T)) 11 = nI (T 12 6) := by rw [upd_ne (by omega), upd_ne (by omega), upd_ne (by omega), upd_ne (by omega), hS.2 11 (by omega), upd_ne (by omega)]; exact r11
  refine w_aload_n dX8_leaves_120 rfl ?_
  refine w_getf dX8_leaves_121 fl_X8_7 (by first | assumption | exact gs_at | (rw [gs_ne (by omega)]; (first | assumption | exact gs_at | (rw [gs_ne (by omega)]; (first | assumption | exact gs_at | (rw [gs_ne (by omega)]; (first | assumption | exact gs_at | (rw [gs_ne (by omega)]; (first | assumption | exact gs_at))))))))) rfl ?_
  refine w_bipush (v := nI 11) dX8_leaves_124 (by decide) ?_
  refine w_bipush (v := nI 60) dX8_leaves_126 (by decide) ?_
  refine w_aload_n dX8_leaves_128 rfl ?_
  refine w_getf dX8_leaves_129 fl_X8_7 (by first | assumption | exact gs_at | (rw [gs_ne (by omega)]; (first | assumption | exact gs_at | (rw [gs_ne (by omega)]; (first | assumption | exact gs_at | (rw [gs_ne (by omega)]; (first | assumption | exact gs_at | (rw [gs_ne (by omega)]; (first | assumption | exact gs_at))))))))) rfl ?_
  refine w_bipush (v := nI 11) dX8_leaves_132 (by decide) ?_
  refine w_iaload dX8_leaves_134 (by first | assumption | exact gs_at | (rw [gs_ne (by omega)]; (first | assumption | exact gs_at | (rw [gs_ne (by omega)]; (first | assumption | exact gs_at | (rw [gs_ne (by omega)]; (first | assumption | exact gs_at | (rw [gs_ne (by omega)]; (first | assumption | exact gs_at))))))))) (by first | assumption | exact vp_in_nI (by omega) (by omega) | exact vp_in_nI (by assumption) (by omega)) ?_
  rw [nI_clamp (by omega)]
  rw [x11]
  refine w_iconst (v := nI 1) dX8_leaves_135 (by decide) ?_
  first | refine w_iaddN dX8_leaves_136 ?_ | refine w_iadd dX8_leaves_136 ?_
  refine wS2u dX8_leaves_137 lk_X8_222 rfl (m_lesser (a := 60) (by omega) (by omega)) (Nat.le_of_ble_eq_true rfl) (Nat.le_of_ble_eq_true rfl) (Nat.le_of_ble_eq_true rfl) (Nat.le_of_ble_eq_true rfl) ?_
  refine w_iastore dX8_leaves_140 (by first | assumption | exact gs_at | (rw [gs_ne (by omega)]; (first | assumption | exact gs_at | (rw [gs_ne (by omega)]; (first | assumption | exact gs_at | (rw [gs_ne (by omega)]; (first | assumption | exact gs_at | (rw [gs_ne (by omega)]; (first | assumption | exact gs_at))))))))) (by first | assumption | exact vp_in_nI (by omega) (by omega) | exact vp_in_nI (by assumption) (by omega)) ?_
  rw [nI_clamp (by omega)]
  rw [gs_gs]
  have hB1 : Bd (tu T 10 (thereN T) (min 9999 (T 10 (thereN T) + dueN T))) := hB.pu10 (by omega)
  have hR2 := hR1.log (d := T 12 3) (s := thereN T) (g := cntN 12 (bitN (mis T) (T 12 0))) (m := dueN T) (nn := upd (upd (upd (upd (upd nn 110 (nI (T 12 3))) 111 (nI (thereN T))) 112 (nI (cntN 12 (bitN (mis T) (T 12 0))))) 113 (nI (dueN T))) 11 (nI (min 60 (T 12 6 + 1)))) hB1 (fun k h1 h2 => by rw [upd_ne (by omega), upd_ne (by omega), upd_ne (by omega), upd_ne (by omega), upd_ne (by omega)]; exact hS.1 k (by omega) h2) (by rw [upd_ne (by omega), upd_ne (by omega), upd_ne (by omega), upd_ne (by omega), upd_at]) (by rw [upd_ne (by omega), upd_ne (by omega), upd_ne (by omega), upd_at]) (by rw [upd_ne (by omega), upd_ne (by omega), upd_at]) (by rw [upd_ne (by omega), upd_at]) (by rw [upd_at, tu_ne1 _ _ _ _ (show 12 ≠ 10 by decide)]) (fun j h1 h2 => by rw [upd_ne (by omega), upd_ne (by omega), upd_ne (by omega), upd_ne (by omega), upd_ne (by omega)]; exact hS.2 j (by omega))
  have hK2 : Keep nn (upd (upd (upd (upd (upd nn 110 (nI (T 12 3))) 111 (nI (thereN T))) 112 (nI (cntN 12 (bitN (mis T) (T 12 0))))) 113 (nI (dueN T))) 11 (nI (min 60 (T 12 6 + 1)))) := (Keep.up (by omega) (by omega) (by omega)).tr ((Keep.up (by omega) (by omega) (by omega)).tr ((Keep.up (by omega) (by omega) (by omega)).tr ((Keep.up (by omega) (by omega) (by omega)).tr (Keep.up (by omega) (by omega) (by omega)))))
  have hKn : Keep (upd mm (9 + thereN T) (nI (min 9999 (T 10 (thereN T) + dueN T)))) nn := ⟨hS.2 1 (by omega), hS.2 2 (by omega), fun k hk => hS.2 k (by omega)⟩
  have hB2 : Bd (addT (tu T 10 (thereN T) (min 9999 (T 10 (thereN T) + dueN T))) (T 12 3) (thereN T) (cntN 12 (bitN (mis T) (T 12 0))) (dueN T)) := hB1.add (by omega) (by omega) (by have := cntN_le (bitN (mis T) (T 12 0)) 12; omega) (by omega)
  refine w_aload_n dX8_leaves_141 rfl ?_
  refine wV0d dX8_leaves_142 lk_X8_265 rfl (by first | assumption | exact gs_at | (rw [gs_ne (by omega)]; (first | assumption | exact gs_at | (rw [gs_ne (by omega)]; (first | assumption | exact gs_at | (rw [gs_ne (by omega)]; (first | assumption | exact gs_at | (rw [gs_ne (by omega)]; (first | assumption | exact gs_at))))))))) rfl rfl (m_inventory (mm := _) ((gs_ne (by omega)).trans hV) gs_at hR2 hB2) (Nat.le_of_ble_eq_true rfl) (Nat.le_of_ble_eq_true rfl) (Nat.le_of_ble_eq_true rfl) (Nat.le_of_ble_eq_true rfl) (fun G9 h_142 => ?_)
  obtain ⟨mz, hG9, hR9, hK9⟩ := h_142
  subst hG9
  rw [gs_gs]
  refine w_vret dX8_leaves_145 rfl (Nat.le_of_ble_eq_true rfl) (Nat.le_of_ble_eq_true rfl) ?_
  exact ⟨rfl, mz, rfl, by rw [lev_eq]; exact hR9, hK1.tr (hKn.tr (hK2.tr hK9))⟩
