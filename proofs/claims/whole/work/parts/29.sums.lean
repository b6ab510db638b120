/-! the log's cells; sums of sets -/
def fmI (x y : Int32) : Int32 := if nI 0 ≤ x ^^^ y then x - x / y * y else if x - x / y * y = nI 0 then x - x / y * y else (x - x / y * y) + y
set_option maxRecDepth 20000 in
theorem fm60 : ∀ a : Fin 60, ∀ b : Fin 61, fmI (nI a.1 - nI b.1) (nI 60) = nI ((a.1 + 60 - b.1) % 60) := by decide +kernel
theorem c_floorMod {E : EV} {x y : Int32} {G : AH} (hy : ¬ y = 0) : Cu E 1 kJ9_floorMod_7cf53 [.int x, .int y] G (.int (fmI x y)) G := by
  refine Ct.introF rfl (Jvm.Free.JP.mathPlain rfl (by decide +kernel)) [.int x, .int y, .float 0] (by simp [Value.category]) (Nat.le_of_ble_eq_true rfl) rfl ?_
  refine w_iload_n dJ9_floorMod_7cf53_0 rfl ?_
  refine w_iload_n dJ9_floorMod_7cf53_1 rfl ?_
  refine w_irem dJ9_floorMod_7cf53_2 hy ?_
  refine w_istore_2 dJ9_floorMod_7cf53_3 rfl ?_
  refine w_iload_n dJ9_floorMod_7cf53_4 rfl ?_
  refine w_iload_n dJ9_floorMod_7cf53_5 rfl ?_
  refine w_ixor dJ9_floorMod_7cf53_6 ?_
  refine w_ifN_ge (tgt := 18) dJ9_floorMod_7cf53_7 (by decide) (fun c_7 => ?_) (fun c_7 => ?_)
  · refine w_iload_n dJ9_floorMod_7cf53_18 rfl ?_
    refine w_iret dJ9_floorMod_7cf53_19 rfl (Nat.le_of_ble_eq_true rfl) (Nat.le_of_ble_eq_true rfl) ?_
    exact ⟨by rw [fmI, if_pos c_7], rfl⟩
  · refine w_iload_n dJ9_floorMod_7cf53_10 rfl ?_
    refine w_ifN_eq (tgt := 18) dJ9_floorMod_7cf53_11 (by decide) (fun c_11 => ?_) (fun c_11 => ?_)
    · refine w_iload_n dJ9_floorMod_7cf53_18 rfl ?_
      refine w_iret dJ9_floorMod_7cf53_19 rfl (Nat.le_of_ble_eq_true rfl) (Nat.le_of_ble_eq_true rfl) ?_
      exact ⟨by rw [fmI, if_neg c_7, if_pos c_11], rfl⟩
    · refine w_iload_n dJ9_floorMod_7cf53_14 rfl ?_
      refine w_iload_n dJ9_floorMod_7cf53_15 rfl ?_
      refine w_iadd dJ9_floorMod_7cf53_16 ?_
      refine w_iret dJ9_floorMod_7cf53_17 rfl (Nat.le_of_ble_eq_true rfl) (Nat.le_of_ble_eq_true rfl) ?_
      exact ⟨by rw [fmI, if_neg c_7, if_neg c_11], rfl⟩
theorem c_cell {E : EV} {a : Nat} {T : ST} {sd : Int32} {G : AH} {j w : Nat} (hI : Isl G a T sd) (hB : Bd T) (hj : j ≤ 60) (hw : w < 4) : Cu E 2 kX4_cell [.ref (a + 12), .int (nI j), .int (nI w)] G (.int (nI (T 11 ((T 12 5 + 60 - j) % 60 * 4 + w)))) G := by
  obtain ⟨i0, i1, i2, i3, i4, i5, i6, i7, i8, i9, i10, i11, i12, i13⟩ := id hI
  obtain ⟨b0, b1, b2_, b3, b4, b5, b6, b7, b8, b9, b10, b11, b12, b13, b14, b15, b16, b17, b18, b19⟩ := id hB
  have hm := Nat.mod_lt (T 12 5 + 60 - j) (show 0 < 60 by decide)
  have hfm := fm60 ⟨T 12 5, b17⟩ ⟨j, by omega⟩
  dsimp only at hfm
  refine Ct.intro rfl (by decide) [.ref (a + 12), .int (nI j), .int (nI w), .float 0] (by simp [Value.category]) (Nat.le_of_ble_eq_true rfl) rfl ?_
  refine w_aload_n dX4_cell_0 rfl ?_
  refine w_getf dX4_cell_1 fl_X4_15 (by first | assumption | exact gs_at | (rw [gs_ne (by omega)]; (first | assumption | exact gs_at | (rw [gs_ne (by omega)]; (first | assumption | exact gs_at | (rw [gs_ne (by omega)]; (first | assumption | exact gs_at | (rw [gs_ne (by omega)]; (first | assumption | exact gs_at))))))))) rfl ?_
  refine w_iload_n dX4_cell_4 rfl ?_
  refine w_isub dX4_cell_5 ?_
  refine w_bipush (v := nI 60) dX4_cell_6 (by decide) ?_
  refine wJ2u dX4_cell_8 lk_X4_36 rfl (c_floorMod (by decide)) (Nat.le_of_ble_eq_true rfl) (Nat.le_of_ble_eq_true rfl) (Nat.le_of_ble_eq_true rfl) (Nat.le_of_ble_eq_true rfl) ?_
  rw [hfm]
  refine w_istore_3 dX4_cell_11 rfl ?_
  refine w_aload_n dX4_cell_12 rfl ?_
  refine w_getf dX4_cell_13 fl_X4_9 (by first | assumption | exact gs_at | (rw [gs_ne (by omega)]; (first | assumption | exact gs_at | (rw [gs_ne (by omega)]; (first | assumption | exact gs_at | (rw [gs_ne (by omega)]; (first | assumption | exact gs_at | (rw [gs_ne (by omega)]; (first | assumption | exact gs_at))))))))) rfl ?_
  refine w_iload_n dX4_cell_16 rfl ?_
  refine w_iconst (v := nI 4) dX4_cell_17 (by decide) ?_
  first | refine w_imulN dX4_cell_18 ?_ | refine w_imul dX4_cell_18 ?_
  refine w_iload_n dX4_cell_19 rfl ?_
  first | refine w_iaddN dX4_cell_20 ?_ | refine w_iadd dX4_cell_20 ?_
  refine wN2u dX4_cell_21 lk_X4_39 rfl (c_atN (f := fun i => nI (T 11 i)) i13 (by omega) (by decide)) (Nat.le_of_ble_eq_true rfl) (Nat.le_of_ble_eq_true rfl) (Nat.le_of_ble_eq_true rfl) (Nat.le_of_ble_eq_true rfl) ?_
  refine w_iret dX4_cell_24 rfl (Nat.le_of_ble_eq_true rfl) (Nat.le_of_ble_eq_true rfl) ?_
  exact ⟨rfl, rfl⟩
/-- a sum over the bits of a set: its first k bits, from the f-th weight on -/
def sbN (g : Nat → Nat) (f : Nat) (s : Nat) : Nat → Nat | 0 => 0 | k + 1 => sbN g f s k + (if s.testBit k then g (f + k) else 0)
def Sm (G : AH) (a : Nat) (g : Nat → Nat) : Prop := G.1 a = some (oB 6 [.ref (a + 1), .ref (a + 2)]) ∧ G.1 (a + 1) = some (aI 64 (fun s => nI (sbN g 0 s 6))) ∧ G.1 (a + 2) = some (aI 64 (fun s => nI (sbN g 6 s 6)))
theorem sbN_lt (g : Nat → Nat) (f s : Nat) : ∀ k j, s < 2 ^ k → k ≤ j → sbN g f s j = sbN g f s k
  | k, 0, h, hj => by rw [show k = 0 from by omega]
  | k, j + 1, h, hj => by
    by_cases hk : k = j + 1
    · rw [hk]
    · rw [sbN, sbN_lt g f s k j h (by omega), Nat.testBit_lt_two_pow (Nat.lt_of_lt_of_le h (Nat.pow_le_pow_right (by decide) (by omega)))]
      rfl
theorem sbN_add (g : Nat → Nat) (f s k : Nat) (h : s < 2 ^ k) : sbN g f (s + 2 ^ k) (k + 1) = sbN g f s k + g (f + k) := by
  have h1 : ∀ j, j ≤ k → sbN g f (s + 2 ^ k) j = sbN g f s j := by
    intro j
    induction j with
    | zero => intro _; rfl
    | succ j ih =>
      intro hj
      rw [sbN, sbN, ih (by omega), Nat.add_comm s, Nat.testBit_two_pow_add_gt (by omega)]
  rw [sbN, h1 k (Nat.le_refl _), Nat.add_comm s, Nat.testBit_two_pow_add_eq, Nat.testBit_lt_two_pow h]
  rfl
theorem lp_fill2 {E : EV} {Q : OC → AH → Prop} {h w fr : Nat} {g : Nat → Nat} {G0 : AH} (hw : G0.1 w = some (aI 12 (fun i => nI (g i)))) (hne : h ≠ w) (hfr : fr ≤ 6) (hQ : ∀ G1, (∃ r : Nat → Int32, G1.1 h = some (aI 64 r) ∧ ∀ s, s < 64 → r s = nI (sbN g fr s 6)) → G1.2 = G0.2 → (∀ q, q ≠ h → G1.1 q = G0.1 q) → Q (.inl none) G1) (b : Nat) (hb : b < 6) (kk : ∀ z : Value, ∀ (r : Nat → Int32) (G : AH), G.1 h = some (aI 64 r) → (∀ s, s < 2 ^ (b + 1) → r s = nI (sbN g fr s 6)) → G.2 = G0.2 → (∀ q, q ≠ h → G.1 q = G0.1 q) → Wp E 2 0 0 kX6_fillHalf Q G (0, 0) 2 [.ref h, .ref w, .int (nI fr), .int (nI (b + 1)), z] []) : ∀ (k i : Nat), 2 ^ b - i < k → i ≤ 2 ^ b → ∀ (r : Nat → Int32) (G : AH), G.1 h = some (aI 64 r) → (∀ s, s < 2 ^ b + i → r s = nI (sbN g fr s 6)) → G.2 = G0.2 → (∀ q, q ≠ h → G.1 q = G0.1 q) → Wp E 2 0 0 kX6_fillHalf Q G (0, 0) 11 [.ref h, .ref w, .int (nI fr), .int (nI b), .int (nI i)] [] := by
  have hp : 2 ^ b ≤ 32 := Nat.pow_le_pow_right (n := 2) (by decide) (show b ≤ 5 by omega)
  intro k
  induction k with
  | zero => intro i h; exact absurd h (by omega)
  | succ k ih =>
    intro i hk hi r G hr hs hG2 hGG
    have hw := (hGG w (Ne.symm hne)).trans hw
    refine w_iload dX6_fillHalf_11 rfl ?_
    refine w_iconst (v := nI 1) dX6_fillHalf_13 (by decide) ?_
    refine w_iload_n dX6_fillHalf_14 rfl ?_
    refine w_ishlN (show b < 31 by omega) (p2_lt (show b < 31 by omega)) dX6_fillHalf_15 ?_
    refine w_icmp_ge (tgt := 49) dX6_fillHalf_16 (by decide) (fun c_16 => ?_) (fun c_16 => ?_)
    · try simp (disch := omega) only [nI_b2, nI_ltI, nI_leI, nI_eq, ge_iff_le, gt_iff_lt, Nat.not_lt, Nat.not_le, ne_eq, Decidable.not_not] at c_16
      first | refine w_iinc_3 dX6_fillHalf_49 (nI_inc _) rfl ?_ | refine w_iinc_3 dX6_fillHalf_49 rfl rfl ?_
      refine w_goto (tgt := 2) dX6_fillHalf_52 (by decide) ?_
      exact kk _ r G hr (fun s h => hs s (by rw [Nat.pow_succ] at h; omega)) hG2 hGG
    · try simp (disch := omega) only [nI_b2, nI_ltI, nI_leI, nI_eq, ge_iff_le, gt_iff_lt, Nat.not_lt, Nat.not_le, ne_eq, Decidable.not_not] at c_16
      refine w_aload_n dX6_fillHalf_19 rfl ?_
      refine w_iload dX6_fillHalf_20 rfl ?_
      refine w_iconst (v := nI 1) dX6_fillHalf_22 (by decide) ?_
      refine w_iload_n dX6_fillHalf_23 rfl ?_
      refine w_ishlN (show b < 31 by omega) (p2_lt (show b < 31 by omega)) dX6_fillHalf_24 ?_
      first | refine w_iaddN dX6_fillHalf_25 ?_ | refine w_iadd dX6_fillHalf_25 ?_
      refine w_aload_n dX6_fillHalf_26 rfl ?_
      refine w_iload dX6_fillHalf_27 rfl ?_
      refine wN2u dX6_fillHalf_29 lk_X6_20 rfl (c_atN hr (by omega) (by decide)) (Nat.le_of_ble_eq_true rfl) (Nat.le_of_ble_eq_true rfl) (Nat.le_of_ble_eq_true rfl) (Nat.le_of_ble_eq_true rfl) ?_
      rw [hs i (by omega)]
      refine w_aload_n dX6_fillHalf_32 rfl ?_
      refine w_iload_n dX6_fillHalf_33 rfl ?_
      refine w_iload_n dX6_fillHalf_34 rfl ?_
      first | refine w_iaddN dX6_fillHalf_35 ?_ | refine w_iadd dX6_fillHalf_35 ?_
      refine wN2u dX6_fillHalf_36 lk_X6_20 rfl (c_atN hw (by omega) (by decide)) (Nat.le_of_ble_eq_true rfl) (Nat.le_of_ble_eq_true rfl) (Nat.le_of_ble_eq_true rfl) (Nat.le_of_ble_eq_true rfl) ?_
      first | refine w_iaddN dX6_fillHalf_39 ?_ | refine w_iadd dX6_fillHalf_39 ?_
      refine wN3n dX6_fillHalf_40 lk_X6_26 rfl (c_putN hr (by omega) (by decide)) (Nat.le_of_ble_eq_true rfl) (Nat.le_of_ble_eq_true rfl) (Nat.le_of_ble_eq_true rfl) (Nat.le_of_ble_eq_true rfl) ?_
      first | refine w_iinc_4 dX6_fillHalf_43 (nI_inc _) rfl ?_ | refine w_iinc_4 dX6_fillHalf_43 rfl rfl ?_
      refine w_goto (tgt := 11) dX6_fillHalf_46 (by decide) ?_
      refine ih (i + 1) (by omega) (by omega) _ _ gs_at (fun s h => ?_) hG2 (fun q hq => (gs_ne hq).trans (hGG q hq))
      unfold upd
      split
      · next h9 =>
        subst h9
        rw [Nat.one_mul, sbN_lt g fr (i + 2 ^ b) (b + 1) 6 (by rw [Nat.pow_succ]; omega) (by omega), sbN_add g fr i b (by omega), sbN_lt g fr i b 6 (by omega) (by omega)]
      · exact hs s (by omega)
theorem lp_fill {E : EV} {Q : OC → AH → Prop} {h w fr : Nat} {g : Nat → Nat} {G0 : AH} (hw : G0.1 w = some (aI 12 (fun i => nI (g i)))) (hne : h ≠ w) (hfr : fr ≤ 6) (hQ : ∀ G1, (∃ r : Nat → Int32, G1.1 h = some (aI 64 r) ∧ ∀ s, s < 64 → r s = nI (sbN g fr s 6)) → G1.2 = G0.2 → (∀ q, q ≠ h → G1.1 q = G0.1 q) → Q (.inl none) G1) : ∀ (k b : Nat), 6 - b < k → b ≤ 6 → ∀ z : Value, ∀ (r : Nat → Int32) (G : AH), G.1 h = some (aI 64 r) → (∀ s, s < 2 ^ b → r s = nI (sbN g fr s 6)) → G.2 = G0.2 → (∀ q, q ≠ h → G.1 q = G0.1 q) → Wp E 2 0 0 kX6_fillHalf Q G (0, 0) 2 [.ref h, .ref w, .int (nI fr), .int (nI b), z] [] := by
  intro k
  induction k with
  | zero => intro i h; exact absurd h (by omega)
  | succ k ih =>
    intro b hk hb z r G hr hs hG2 hGG
    have hp0 : 0 < 2 ^ b := Nat.two_pow_pos b
    refine w_iload_n dX6_fillHalf_2 rfl ?_
    refine w_bipush (v := nI 6) dX6_fillHalf_3 (by decide) ?_
    refine w_icmp_ge (tgt := 55) dX6_fillHalf_5 (by decide) (fun c_5 => ?_) (fun c_5 => ?_)
    · try simp (disch := omega) only [nI_b2, nI_ltI, nI_leI, nI_eq, ge_iff_le, gt_iff_lt, Nat.not_lt, Nat.not_le, ne_eq, Decidable.not_not] at c_5
      refine w_vret dX6_fillHalf_55 rfl (Nat.le_of_ble_eq_true rfl) (Nat.le_of_ble_eq_true rfl) ?_
      have e : b = 6 := by omega
      subst e
      exact hQ G ⟨r, hr, hs⟩ hG2 hGG
    · try simp (disch := omega) only [nI_b2, nI_ltI, nI_leI, nI_eq, ge_iff_le, gt_iff_lt, Nat.not_lt, Nat.not_le, ne_eq, Decidable.not_not] at c_5
      refine w_iconst (v := nI 0) dX6_fillHalf_8 (by decide) ?_
      refine w_istore_4 dX6_fillHalf_9 rfl ?_
      exact lp_fill2 hw hne hfr hQ b (by omega) (fun z => ih (b + 1) (by omega) (by omega) z) (2 ^ b + 1) 0 (by omega) (by omega) r G hr hs hG2 hGG
theorem c_fillHalf {E : EV} {h w fr : Nat} {g : Nat → Nat} {G0 : AH} (hw : G0.1 w = some (aI 12 (fun i => nI (g i)))) (hne : h ≠ w) (hfr : fr ≤ 6) (hpre : ∃ r : Nat → Int32, G0.1 h = some (aI 64 r) ∧ r 0 = nI 0) : Cd E 2 kX6_fillHalf [.ref h, .ref w, .int (nI fr)] G0 (fun G1 => (∃ r : Nat → Int32, G1.1 h = some (aI 64 r) ∧ ∀ s, s < 64 → r s = nI (sbN g fr s 6)) ∧ G1.2 = G0.2 ∧ ∀ q, q ≠ h → G1.1 q = G0.1 q) := by
  obtain ⟨r, hr, hr0⟩ := hpre
  refine Ct.intro rfl (by decide) [.ref h, .ref w, .int (nI fr), .float 0, .float 0] (by simp [Value.category]) (Nat.le_of_ble_eq_true rfl) rfl ?_
  refine w_iconst (v := nI 0) dX6_fillHalf_0 (by decide) ?_
  refine w_istore_3 dX6_fillHalf_1 rfl ?_
  exact lp_fill hw hne hfr (fun G1 a b c => ⟨rfl, a, b, c⟩) 7 0 (by omega) (by omega) _ r G0 hr (fun s h => by rw [show s = 0 from by omega, hr0, sbN_lt g fr 0 0 6 (by decide) (by decide)]; rfl) rfl (fun q _ => rfl)
def SmR (G : AH) (a : Nat) : Prop := G.1 a = some (oB 6 [.ref (a + 1), .ref (a + 2)]) ∧ (∃ r : Nat → Int32, G.1 (a + 1) = some (aI 64 r) ∧ r 0 = nI 0) ∧ ∃ r : Nat → Int32, G.1 (a + 2) = some (aI 64 r) ∧ r 0 = nI 0
def SmF (G : AH) (a : Nat) (g : Nat → Nat) : Prop := G.1 a = some (oB 6 [.ref (a + 1), .ref (a + 2)]) ∧ (∃ r : Nat → Int32, G.1 (a + 1) = some (aI 64 r) ∧ ∀ s, s < 64 → r s = nI (sbN g 0 s 6)) ∧ ∃ r : Nat → Int32, G.1 (a + 2) = some (aI 64 r) ∧ ∀ s, s < 64 → r s = nI (sbN g 6 s 6)
theorem SmF.r {G : AH} {a : Nat} {g : Nat → Nat} (h : SmF G a g) : SmR G a := by
  obtain ⟨h0, ⟨r, h1, h2⟩, r2, h3, h4⟩ := h
  exact ⟨h0, ⟨r, h1, by rw [h2 0 (by decide), sbN_lt g 0 0 0 6 (by decide) (by decide)]; rfl⟩, r2, h3, by rw [h4 0 (by decide), sbN_lt g 6 0 0 6 (by decide) (by decide)]; rfl⟩
theorem c_fill {E : EV} {a w : Nat} {g : Nat → Nat} {G : AH} (hS : SmR G a) (hw : G.1 w = some (aI 12 (fun i => nI (g i)))) (hne : w < a ∨ a + 3 ≤ w) : Cd E 3 kX6_fill [.ref a, .ref w] G (fun G1 => SmF G1 a g ∧ G1.2 = G.2 ∧ ∀ q, (q < a ∨ a + 3 ≤ q) → G1.1 q = G.1 q) := by
  obtain ⟨s0, s1, ⟨r2, s2, s3⟩⟩ := id hS
  refine Ct.intro rfl (by decide) [.ref a, .ref w] (by simp [Value.category]) (Nat.le_of_ble_eq_true rfl) rfl ?_
  refine w_aload_n dX6_fill_0 rfl ?_
  refine w_getf dX6_fill_1 fl_X6_9 (by first | assumption | exact gs_at | (rw [gs_ne (by omega)]; (first | assumption | exact gs_at | (rw [gs_ne (by omega)]; (first | assumption | exact gs_at | (rw [gs_ne (by omega)]; (first | assumption | exact gs_at | (rw [gs_ne (by omega)]; (first | assumption | exact gs_at))))))))) rfl ?_
  refine w_aload_n dX6_fill_4 rfl ?_
  refine w_iconst (v := nI 0) dX6_fill_5 (by decide) ?_
  refine wS3d dX6_fill_6 lk_X6_16 rfl (c_fillHalf (g := g) hw (by omega) (by decide) s1) (Nat.le_of_ble_eq_true rfl) (Nat.le_of_ble_eq_true rfl) (Nat.le_of_ble_eq_true rfl) (Nat.le_of_ble_eq_true rfl) (fun G1 h_6 => ?_)
  obtain ⟨⟨r, h1, h2⟩, h3, h4⟩ := h_6
  have s0 := (h4 a (by omega)).trans s0
  have s2 := (h4 (a + 2) (by omega)).trans s2
  have hw := (h4 w (by omega)).trans hw
  refine w_aload_n dX6_fill_9 rfl ?_
  refine w_getf dX6_fill_10 fl_X6_13 (by first | assumption | exact gs_at | (rw [gs_ne (by omega)]; (first | assumption | exact gs_at | (rw [gs_ne (by omega)]; (first | assumption | exact gs_at | (rw [gs_ne (by omega)]; (first | assumption | exact gs_at | (rw [gs_ne (by omega)]; (first | assumption | exact gs_at))))))))) rfl ?_
  refine w_aload_n dX6_fill_13 rfl ?_
  refine w_bipush (v := nI 6) dX6_fill_14 (by decide) ?_
  refine wS3d dX6_fill_16 lk_X6_16 rfl (c_fillHalf (g := g) hw (by omega) (by decide) ⟨r2, s2, s3⟩) (Nat.le_of_ble_eq_true rfl) (Nat.le_of_ble_eq_true rfl) (Nat.le_of_ble_eq_true rfl) (Nat.le_of_ble_eq_true rfl) (fun G2 h_16 => ?_)
  obtain ⟨⟨r9, h11, h12⟩, h13, h14⟩ := h_16
  refine w_vret dX6_fill_19 rfl (Nat.le_of_ble_eq_true rfl) (Nat.le_of_ble_eq_true rfl) ?_
  exact ⟨rfl, ⟨(h14 a (by omega)).trans s0, ⟨r, (h14 (a + 1) (by omega)).trans h1, h2⟩, r9, h11, h12⟩, h13.trans h3, fun q hq => (h14 q (by omega)).trans (h4 q (by omega))⟩
theorem sbN_le {g : Nat → Nat} {f s c : Nat} (h : ∀ i, g i ≤ c) : ∀ k, sbN g f s k ≤ k * c
  | 0 => by simp [sbN]
  | k + 1 => by have h1 := sbN_le (f := f) (s := s) h k; have h2 := h (f + k); rw [sbN, Nat.succ_mul]; split <;> omega
/-- a sum over the twelve bits of a set -/
def sb12 (g : Nat → Nat) (s : Nat) : Nat := sbN g 0 (s % 64) 6 + sbN g 6 (s / 64 % 64) 6
theorem and63 (s : Nat) : s &&& 63 = s % 64 := by rw [show (63 : Nat) = 2 ^ 6 - 1 from rfl, Nat.and_two_pow_sub_one_eq_mod]
theorem c_sumOf {E : EV} {a s : Nat} {g : Nat → Nat} {G : AH} (hS : SmF G a g) (hs : s < 2 ^ 31) : Cu E 2 kX6_of [.ref a, .int (nI s)] G (.int (nI (sb12 g s))) G := by
  obtain ⟨s0, ⟨r1, s1, e1⟩, r2, s2, e2⟩ := id hS
  have h63 : ∀ z, z % 64 < 64 := fun z => Nat.mod_lt _ (by decide)
  refine Ct.intro rfl (by decide) [.ref a, .int (nI s)] (by simp [Value.category]) (Nat.le_of_ble_eq_true rfl) rfl ?_
  refine w_aload_n dX6_of_0 rfl ?_
  refine w_getf dX6_of_1 fl_X6_9 (by first | assumption | exact gs_at | (rw [gs_ne (by omega)]; (first | assumption | exact gs_at | (rw [gs_ne (by omega)]; (first | assumption | exact gs_at | (rw [gs_ne (by omega)]; (first | assumption | exact gs_at | (rw [gs_ne (by omega)]; (first | assumption | exact gs_at))))))))) rfl ?_
  refine w_iload_n dX6_of_4 rfl ?_
  refine w_bipush (v := nI 63) dX6_of_5 (by decide) ?_
  first | refine w_iandN dX6_of_7 ?_ | refine w_iand dX6_of_7 ?_
  refine wN2u dX6_of_8 lk_X6_20 rfl (c_atN s1 (by rw [and63]; exact h63 _) (by decide)) (Nat.le_of_ble_eq_true rfl) (Nat.le_of_ble_eq_true rfl) (Nat.le_of_ble_eq_true rfl) (Nat.le_of_ble_eq_true rfl) ?_
  rw [e1 _ (by rw [and63]; exact h63 _), and63]
  refine w_aload_n dX6_of_11 rfl ?_
  refine w_getf dX6_of_12 fl_X6_13 (by first | assumption | exact gs_at | (rw [gs_ne (by omega)]; (first | assumption | exact gs_at | (rw [gs_ne (by omega)]; (first | assumption | exact gs_at | (rw [gs_ne (by omega)]; (first | assumption | exact gs_at | (rw [gs_ne (by omega)]; (first | assumption | exact gs_at))))))))) rfl ?_
  refine w_iload_n dX6_of_15 rfl ?_
  refine w_bipush (v := nI 6) dX6_of_16 (by decide) ?_
  refine w_ishr dX6_of_18 ?_
  rw [nI_shr (show 6 < 31 by decide) hs]
  refine w_bipush (v := nI 63) dX6_of_19 (by decide) ?_
  first | refine w_iandN dX6_of_21 ?_ | refine w_iand dX6_of_21 ?_
  refine wN2u dX6_of_22 lk_X6_20 rfl (c_atN s2 (by rw [and63]; exact h63 _) (by decide)) (Nat.le_of_ble_eq_true rfl) (Nat.le_of_ble_eq_true rfl) (Nat.le_of_ble_eq_true rfl) (Nat.le_of_ble_eq_true rfl) ?_
  rw [e2 _ (by rw [and63]; exact h63 _), and63]
  first | refine w_iaddN dX6_of_25 ?_ | refine w_iadd dX6_of_25 ?_
  refine w_iret dX6_of_26 rfl (Nat.le_of_ble_eq_true rfl) (Nat.le_of_ble_eq_true rfl) ?_
  exact ⟨rfl, rfl⟩
