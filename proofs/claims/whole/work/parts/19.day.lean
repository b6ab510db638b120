/-! a day of an island -/
def itmT (D : LD) (T : ST) (k : Nat) : ST := tu (tu (tu T 2 k (min 99 (T 2 k + tlN D T k D.2.1 0))) 7 (T 1 k) (min 99 (T 7 (T 1 k) + tlN D T k D.2.1 2))) 1 k ((T 1 k + tlN D T k D.2.1 1) % 6)
/-- outside an island and a law's row of what is told -/
def Fr2 (G G' : AH) (a l : Nat) : Prop := G'.2 = G.2 ∧ ∀ q, (q < a ∨ a + 14 ≤ q) → q ≠ l + 5 → G'.1 q = G.1 q
theorem Fr2.rf {G : AH} {a l : Nat} : Fr2 G G a l := ⟨rfl, fun _ _ _ => rfl⟩
theorem Fr2.tr {G G1 G2 : AH} {a l : Nat} (h1 : Fr2 G G1 a l) (h2 : Fr2 G1 G2 a l) : Fr2 G G2 a l := ⟨h2.1.trans h1.1, fun q hq h => (h2.2 q hq h).trans (h1.2 q hq h)⟩
theorem Fr.to2 {G G' : AH} {a l : Nat} (h : Fr G G' a) : Fr2 G G' a l := ⟨h.1, fun q hq _ => h.2 q hq⟩
theorem FrL.to2 {G G' : AH} {a l : Nat} (h : FrL G G' l) : Fr2 G G' a l := ⟨h.1, fun q _ hq => h.2 q hq⟩
theorem Bd.itm {D : LD} {T : ST} (hB : Bd T) {k : Nat} (hk : k < T 12 0) : Bd (itmT D T k) :=
  ((hB.pu2 hk (Nat.min_le_left _ _)).pu7 (Nat.min_le_left _ _)).pu1 (by rw [tu_ne1 _ _ _ _ (by decide), tu_ne1 _ _ _ _ (by decide)]; exact hk) (Nat.mod_lt _ (by decide))
theorem itmT_ne (D : LD) (T : ST) (k : Nat) {f : Nat} (h1 : f ≠ 1) (h2 : f ≠ 2) (h7 : f ≠ 7) (i : Nat) : itmT D T k f i = T f i := by
  unfold itmT
  rw [tu_ne1 _ _ _ _ h1, tu_ne1 _ _ _ _ h7, tu_ne1 _ _ _ _ h2]
def itsT (D : LD) (T : ST) : Nat → ST | 0 => T | i + 1 => itmT D (itsT D T i) i
theorem itsT_ne (D : LD) (T : ST) {f : Nat} (h1 : f ≠ 1) (h2 : f ≠ 2) (h7 : f ≠ 7) (j : Nat) : ∀ i, itsT D T i f j = T f j
  | 0 => rfl
  | i + 1 => by rw [itsT, itmT_ne _ _ _ h1 h2 h7, itsT_ne D T h1 h2 h7 j i]
theorem Bd.its {D : LD} {T : ST} (hB : Bd T) : ∀ i, i ≤ T 12 0 → Bd (itsT D T i)
  | 0, _ => hB
  | i + 1, h => (Bd.its hB i (by omega)).itm (by rw [itsT_ne _ _ (by decide) (by decide) (by decide)]; omega)
theorem c_passItem {E : EV} {a : Nat} {T : ST} {sd : Int32} {G : AH} {k l : Nat} {D : LD} (hL : Lw G l D) (hD : WFD D) (hI : Isl G a T sd) (hB : Bd T) (hk : k < T 12 0) (hla : l + 6 ≤ a ∨ a + 14 ≤ l) : Cd E 5 kX1_passItem [.ref a, .ref l, .int (nI k)] G (fun G1 => Isl G1 a (itmT D T k) sd ∧ Lw G1 l D ∧ Fr2 G G1 a l) := by
  obtain ⟨i0, i1, i2, i3, i4, i5, i6, i7, i8, i9, i10, i11, i12, i13⟩ := id hI
  obtain ⟨b0, b1, b2_, b3, b4, b5, b6, b7, b8, b9, b10, b11, b12, b13, b14, b15, b16, b17, b18, b19⟩ := id hB
  obtain ⟨l0, l1, l2, l3, l4, t0, l5⟩ := id hL
  have hb3 := b3 k; have hb2 := b2_ k; have hb8 := b8 (T 1 k)
  have ht0 := tlN_le hD T k 0 D.2.1 (Nat.le_refl _); have ht1 := tlN_le hD T k 1 D.2.1 (Nat.le_refl _); have ht2 := tlN_le hD T k 2 D.2.1 (Nat.le_refl _); have hd2 := hD.2.1
  refine Ct.intro rfl (by decide) [.ref a, .ref l, .int (nI k), .float 0] (by simp [Value.category]) (Nat.le_of_ble_eq_true rfl) rfl ?_
  refine w_aload_n dX1_passItem_0 rfl ?_
  refine w_aload_n dX1_passItem_1 rfl ?_
  refine w_iload_n dX1_passItem_2 rfl ?_
  refine wV2d dX1_passItem_3 lk_X1_139 rfl (by first | assumption | exact gs_at | (rw [gs_ne (by omega)]; (first | assumption | exact gs_at | (rw [gs_ne (by omega)]; (first | assumption | exact gs_at | (rw [gs_ne (by omega)]; (first | assumption | exact gs_at | (rw [gs_ne (by omega)]; (first | assumption | exact gs_at))))))))) rfl rfl (c_tell hL hD hI hB (by omega) hla) (Nat.le_of_ble_eq_true rfl) (Nat.le_of_ble_eq_true rfl) (Nat.le_of_ble_eq_true rfl) (Nat.le_of_ble_eq_true rfl) (fun G1 h_3 => ?_)
  obtain ⟨hT1, hF1⟩ := h_3
  have hI1 := hI.frL hF1 hla
  have hL1 := hL.frL hF1 ⟨_, hT1⟩
  obtain ⟨i0, i1, i2, i3, i4, i5, i6, i7, i8, i9, i10, i11, i12, i13⟩ := id hI1
  obtain ⟨l0, l1, l2, l3, l4, t0, l5⟩ := id hL1
  refine w_aload_n dX1_passItem_6 rfl ?_
  refine w_getf dX1_passItem_7 fl_X1_15 (by first | assumption | exact gs_at | (rw [gs_ne (by omega)]; (first | assumption | exact gs_at | (rw [gs_ne (by omega)]; (first | assumption | exact gs_at | (rw [gs_ne (by omega)]; (first | assumption | exact gs_at | (rw [gs_ne (by omega)]; (first | assumption | exact gs_at))))))))) rfl ?_
  refine w_iload_n dX1_passItem_10 rfl ?_
  refine wN2u dX1_passItem_11 lk_X1_83 rfl (c_atN (by first | assumption | exact gs_at | (rw [gs_ne (by omega)]; (first | assumption | exact gs_at | (rw [gs_ne (by omega)]; (first | assumption | exact gs_at | (rw [gs_ne (by omega)]; (first | assumption | exact gs_at | (rw [gs_ne (by omega)]; (first | assumption | exact gs_at))))))))) (by omega) (by decide)) (Nat.le_of_ble_eq_true rfl) (Nat.le_of_ble_eq_true rfl) (Nat.le_of_ble_eq_true rfl) (Nat.le_of_ble_eq_true rfl) ?_
  refine w_istore_3 dX1_passItem_14 rfl ?_
  refine w_aload_n dX1_passItem_15 rfl ?_
  refine w_getf dX1_passItem_16 fl_X1_18 (by first | assumption | exact gs_at | (rw [gs_ne (by omega)]; (first | assumption | exact gs_at | (rw [gs_ne (by omega)]; (first | assumption | exact gs_at | (rw [gs_ne (by omega)]; (first | assumption | exact gs_at | (rw [gs_ne (by omega)]; (first | assumption | exact gs_at))))))))) rfl ?_
  refine w_iload_n dX1_passItem_19 rfl ?_
  refine w_bipush (v := nI 99) dX1_passItem_20 (by decide) ?_
  refine w_aload_n dX1_passItem_22 rfl ?_
  refine w_getf dX1_passItem_23 fl_X1_18 (by first | assumption | exact gs_at | (rw [gs_ne (by omega)]; (first | assumption | exact gs_at | (rw [gs_ne (by omega)]; (first | assumption | exact gs_at | (rw [gs_ne (by omega)]; (first | assumption | exact gs_at | (rw [gs_ne (by omega)]; (first | assumption | exact gs_at))))))))) rfl ?_
  refine w_iload_n dX1_passItem_26 rfl ?_
  refine wN2u dX1_passItem_27 lk_X1_83 rfl (c_atN (by first | assumption | exact gs_at | (rw [gs_ne (by omega)]; (first | assumption | exact gs_at | (rw [gs_ne (by omega)]; (first | assumption | exact gs_at | (rw [gs_ne (by omega)]; (first | assumption | exact gs_at | (rw [gs_ne (by omega)]; (first | assumption | exact gs_at))))))))) (by omega) (by decide)) (Nat.le_of_ble_eq_true rfl) (Nat.le_of_ble_eq_true rfl) (Nat.le_of_ble_eq_true rfl) (Nat.le_of_ble_eq_true rfl) ?_
  refine w_aload_n dX1_passItem_30 rfl ?_
  refine w_getf dX1_passItem_31 fl_X1_145 (by first | assumption | exact gs_at | (rw [gs_ne (by omega)]; (first | assumption | exact gs_at | (rw [gs_ne (by omega)]; (first | assumption | exact gs_at | (rw [gs_ne (by omega)]; (first | assumption | exact gs_at | (rw [gs_ne (by omega)]; (first | assumption | exact gs_at))))))))) rfl ?_
  refine w_iconst (v := nI 0) dX1_passItem_34 (by decide) ?_
  refine wN2u dX1_passItem_35 lk_X1_83 rfl (c_atN hT1 (by decide) (by decide)) (Nat.le_of_ble_eq_true rfl) (Nat.le_of_ble_eq_true rfl) (Nat.le_of_ble_eq_true rfl) (Nat.le_of_ble_eq_true rfl) ?_
  first | refine w_iaddN dX1_passItem_38 ?_ | refine w_iadd dX1_passItem_38 ?_
  refine wJ2u dX1_passItem_39 lk_X1_136 rfl (c_min (by omega) (by omega)) (Nat.le_of_ble_eq_true rfl) (Nat.le_of_ble_eq_true rfl) (Nat.le_of_ble_eq_true rfl) (Nat.le_of_ble_eq_true rfl) ?_
  refine wN3d dX1_passItem_42 lk_X1_79 rfl (c_pu2 hI1 (by omega)) (Nat.le_of_ble_eq_true rfl) (Nat.le_of_ble_eq_true rfl) (Nat.le_of_ble_eq_true rfl) (Nat.le_of_ble_eq_true rfl) (fun G2 h_42 => ?_)
  obtain ⟨hI2, hF2⟩ := h_42
  have hL2 := hL1.fr hF2 hla
  have hT2 := (hF2.2 (l + 5) (by omega)).trans hT1
  obtain ⟨i0, i1, i2, i3, i4, i5, i6, i7, i8, i9, i10, i11, i12, i13⟩ := id hI2
  obtain ⟨l0, l1, l2, l3, l4, t0, l5⟩ := id hL2
  simp only [isO, tu_ne T k _ (show 7 ≠ 2 by decide)] at i8
  refine w_aload_n dX1_passItem_45 rfl ?_
  refine w_getf dX1_passItem_46 fl_X1_33 (by first | assumption | exact gs_at | (rw [gs_ne (by omega)]; (first | assumption | exact gs_at | (rw [gs_ne (by omega)]; (first | assumption | exact gs_at | (rw [gs_ne (by omega)]; (first | assumption | exact gs_at | (rw [gs_ne (by omega)]; (first | assumption | exact gs_at))))))))) rfl ?_
  refine w_iload_n dX1_passItem_49 rfl ?_
  refine w_bipush (v := nI 99) dX1_passItem_50 (by decide) ?_
  refine w_aload_n dX1_passItem_52 rfl ?_
  refine w_getf dX1_passItem_53 fl_X1_33 (by first | assumption | exact gs_at | (rw [gs_ne (by omega)]; (first | assumption | exact gs_at | (rw [gs_ne (by omega)]; (first | assumption | exact gs_at | (rw [gs_ne (by omega)]; (first | assumption | exact gs_at | (rw [gs_ne (by omega)]; (first | assumption | exact gs_at))))))))) rfl ?_
  refine w_iload_n dX1_passItem_56 rfl ?_
  refine wN2u dX1_passItem_57 lk_X1_83 rfl (c_atN (f := fun i => nI (T 7 i)) (by first | assumption | exact gs_at | (rw [gs_ne (by omega)]; (first | assumption | exact gs_at | (rw [gs_ne (by omega)]; (first | assumption | exact gs_at | (rw [gs_ne (by omega)]; (first | assumption | exact gs_at | (rw [gs_ne (by omega)]; (first | assumption | exact gs_at))))))))) (by omega) (by decide)) (Nat.le_of_ble_eq_true rfl) (Nat.le_of_ble_eq_true rfl) (Nat.le_of_ble_eq_true rfl) (Nat.le_of_ble_eq_true rfl) ?_
  refine w_aload_n dX1_passItem_60 rfl ?_
  refine w_getf dX1_passItem_61 fl_X1_145 (by first | assumption | exact gs_at | (rw [gs_ne (by omega)]; (first | assumption | exact gs_at | (rw [gs_ne (by omega)]; (first | assumption | exact gs_at | (rw [gs_ne (by omega)]; (first | assumption | exact gs_at | (rw [gs_ne (by omega)]; (first | assumption | exact gs_at))))))))) rfl ?_
  refine w_iconst (v := nI 2) dX1_passItem_64 (by decide) ?_
  refine wN2u dX1_passItem_65 lk_X1_83 rfl (c_atN hT2 (by decide) (by decide)) (Nat.le_of_ble_eq_true rfl) (Nat.le_of_ble_eq_true rfl) (Nat.le_of_ble_eq_true rfl) (Nat.le_of_ble_eq_true rfl) ?_
  first | refine w_iaddN dX1_passItem_68 ?_ | refine w_iadd dX1_passItem_68 ?_
  refine wJ2u dX1_passItem_69 lk_X1_136 rfl (c_min (by omega) (by omega)) (Nat.le_of_ble_eq_true rfl) (Nat.le_of_ble_eq_true rfl) (Nat.le_of_ble_eq_true rfl) (Nat.le_of_ble_eq_true rfl) ?_
  refine wN3d dX1_passItem_72 lk_X1_79 rfl (c_pu7 hI2 (by omega)) (Nat.le_of_ble_eq_true rfl) (Nat.le_of_ble_eq_true rfl) (Nat.le_of_ble_eq_true rfl) (Nat.le_of_ble_eq_true rfl) (fun G3 h_72 => ?_)
  obtain ⟨hI3, hF3⟩ := h_72
  have hL3 := hL2.fr hF3 hla
  have hT3 := (hF3.2 (l + 5) (by omega)).trans hT2
  obtain ⟨i0, i1, i2, i3, i4, i5, i6, i7, i8, i9, i10, i11, i12, i13⟩ := id hI3
  obtain ⟨l0, l1, l2, l3, l4, t0, l5⟩ := id hL3
  refine w_aload_n dX1_passItem_75 rfl ?_
  refine w_getf dX1_passItem_76 fl_X1_15 (by first | assumption | exact gs_at | (rw [gs_ne (by omega)]; (first | assumption | exact gs_at | (rw [gs_ne (by omega)]; (first | assumption | exact gs_at | (rw [gs_ne (by omega)]; (first | assumption | exact gs_at | (rw [gs_ne (by omega)]; (first | assumption | exact gs_at))))))))) rfl ?_
  refine w_iload_n dX1_passItem_79 rfl ?_
  refine w_iload_n dX1_passItem_80 rfl ?_
  refine w_aload_n dX1_passItem_81 rfl ?_
  refine w_getf dX1_passItem_82 fl_X1_145 (by first | assumption | exact gs_at | (rw [gs_ne (by omega)]; (first | assumption | exact gs_at | (rw [gs_ne (by omega)]; (first | assumption | exact gs_at | (rw [gs_ne (by omega)]; (first | assumption | exact gs_at | (rw [gs_ne (by omega)]; (first | assumption | exact gs_at))))))))) rfl ?_
  refine w_iconst (v := nI 1) dX1_passItem_85 (by decide) ?_
  refine wN2u dX1_passItem_86 lk_X1_83 rfl (c_atN hT3 (by decide) (by decide)) (Nat.le_of_ble_eq_true rfl) (Nat.le_of_ble_eq_true rfl) (Nat.le_of_ble_eq_true rfl) (Nat.le_of_ble_eq_true rfl) ?_
  first | refine w_iaddN dX1_passItem_89 ?_ | refine w_iadd dX1_passItem_89 ?_
  refine w_bipush (v := nI 6) dX1_passItem_90 (by decide) ?_
  first | refine w_iremN (by omega) (by omega) (by omega) dX1_passItem_92 ?_ | refine w_irem dX1_passItem_92 (by decide) ?_
  refine wN3d dX1_passItem_93 lk_X1_79 rfl (c_pu1 hI3 (by omega)) (Nat.le_of_ble_eq_true rfl) (Nat.le_of_ble_eq_true rfl) (Nat.le_of_ble_eq_true rfl) (Nat.le_of_ble_eq_true rfl) (fun G4 h_93 => ?_)
  obtain ⟨hI4, hF4⟩ := h_93
  refine w_vret dX1_passItem_96 rfl (Nat.le_of_ble_eq_true rfl) (Nat.le_of_ble_eq_true rfl) ?_
  exact ⟨rfl, hI4, hL3.fr hF4 hla, hF1.to2.tr (hF2.to2.tr (hF3.to2.tr hF4.to2))⟩
theorem lp_passItems {E : EV} {Q : OC → AH → Prop} {a l st : Nat} {T : ST} {sd : Int32} {D : LD} {G0 : AH} (hD : WFD D) (hB : Bd T) (hla : l + 6 ≤ a ∨ a + 14 ≤ l) (kk : ∀ G1, Isl G1 a (itsT D T (T 12 0)) sd → Lw G1 l D → Fr2 G0 G1 a l → Wp E 6 0 0 kX1_passDay Q G1 (0, 0) 22 [.ref a, .ref l, .int (nI st), .int (nI (T 12 0))] []) : ∀ (n i : Nat) (G : AH), T 12 0 - i < n → i ≤ T 12 0 → Isl G a (itsT D T i) sd → Lw G l D → Fr2 G0 G a l → Wp E 6 0 0 kX1_passDay Q G (0, 0) 2 [.ref a, .ref l, .int (nI st), .int (nI i)] [] := by
  intro n
  induction n with
  | zero => intro i G h; exact absurd h (by omega)
  | succ n ih =>
    intro i G hn hi hI hL hF
    obtain ⟨i0, i1, i2, i3, i4, i5, i6, i7, i8, i9, i10, i11, i12, i13⟩ := id hI
    have e0 : itsT D T i 12 0 = T 12 0 := itsT_ne D T (by decide) (by decide) (by decide) 0 i
    have h12 := hB.1
    simp only [isO] at i0
    rw [e0] at i0
    refine w_iload_n dX1_passDay_2 rfl ?_
    refine w_aload_n dX1_passDay_3 rfl ?_
    refine w_getf dX1_passDay_4 fl_X1_52 (by first | assumption | exact gs_at | (rw [gs_ne (by omega)]; (first | assumption | exact gs_at | (rw [gs_ne (by omega)]; (first | assumption | exact gs_at | (rw [gs_ne (by omega)]; (first | assumption | exact gs_at | (rw [gs_ne (by omega)]; (first | assumption | exact gs_at))))))))) rfl ?_
    refine w_icmp_ge (tgt := 22) dX1_passDay_7 (by decide) (fun c_7 => ?_) (fun c_7 => ?_)
    · try simp (disch := omega) only [nI_b2, Decidable.not_not, nI_ltI, nI_leI, nI_eq, ge_iff_le, gt_iff_lt, ne_eq, Nat.not_lt, Nat.not_le] at c_7
      have e : i = T 12 0 := by omega
      subst e
      exact kk G hI hL hF
    · try simp (disch := omega) only [nI_b2, Decidable.not_not, nI_ltI, nI_leI, nI_eq, ge_iff_le, gt_iff_lt, ne_eq, Nat.not_lt, Nat.not_le] at c_7
      refine w_aload_n dX1_passDay_10 rfl ?_
      refine w_aload_n dX1_passDay_11 rfl ?_
      refine w_iload_n dX1_passDay_12 rfl ?_
      refine wV2d dX1_passDay_13 lk_X1_126 rfl (by first | assumption | exact gs_at | (rw [gs_ne (by omega)]; (first | assumption | exact gs_at | (rw [gs_ne (by omega)]; (first | assumption | exact gs_at | (rw [gs_ne (by omega)]; (first | assumption | exact gs_at | (rw [gs_ne (by omega)]; (first | assumption | exact gs_at))))))))) rfl rfl (c_passItem hL hD hI (hB.its i hi) (by rw [e0]; omega) hla) (Nat.le_of_ble_eq_true rfl) (Nat.le_of_ble_eq_true rfl) (Nat.le_of_ble_eq_true rfl) (Nat.le_of_ble_eq_true rfl) (fun G1 h_13 => ?_)
      obtain ⟨hI1, hL1, hF1⟩ := h_13
      first | refine w_iinc_3 dX1_passDay_16 (nI_inc _) rfl ?_ | refine w_iinc_3 dX1_passDay_16 rfl rfl ?_
      refine w_goto (tgt := 2) dX1_passDay_19 (by decide) ?_
      exact ih (i + 1) G1 (by omega) (by omega) hI1 hL1 (hF.tr hF1)
def midT (D : LD) (st : Nat) (T : ST) (sd : Int32) : ST := if st = 0 then itsT D T (T 12 0) else wthT (itsT D T (T 12 0)) sd
def dayS (D : LD) (st : Nat) (T : ST) (sd : Int32) : Int32 := if st = 0 then sd else wthS (itsT D T (T 12 0)) sd
def dayT (D : LD) (st : Nat) (T : ST) (sd : Int32) : ST := tu (if leftN T = 1 then leavT (midT D st T sd) else midT D st T sd) 12 3 (min 9999 (T 12 3 + 1))
theorem wthT_ne (T : ST) (s : Int32) {g : Nat} (h : g ≠ 2) (j : Nat) : wthT T s g j = T g j := by unfold wthT; split; exact wetT_ne _ _ h _ _; rfl
theorem midT_12 (D : LD) (st : Nat) (T : ST) (sd : Int32) (j : Nat) : midT D st T sd 12 j = T 12 j := by
  unfold midT
  split
  · exact itsT_ne D T (by decide) (by decide) (by decide) j _
  · rw [wthT_ne _ _ (by decide)]; exact itsT_ne D T (by decide) (by decide) (by decide) j _
theorem leavT_12 (T : ST) {j : Nat} (h4 : j ≠ 4) (h5 : j ≠ 5) (h6 : j ≠ 6) : leavT T 12 j = T 12 j := by
  unfold leavT takeT
  rw [if_neg (by decide), if_neg (by decide), if_neg (fun h => h4 h.2), tu_ne1 _ _ _ _ (by decide)]
  unfold addT
  rw [tu_ne1 _ _ _ _ (by decide), tu_ne1 _ _ _ _ (by decide), tu_ne1 _ _ _ _ (by decide), tu_ne1 _ _ _ _ (by decide), tu_nk _ _ _ _ h6, tu_nk _ _ _ _ h5]
theorem Bd.mid {D : LD} {T : ST} (hB : Bd T) (st : Nat) (sd : Int32) : Bd (midT D st T sd) := by
  unfold midT
  split
  · exact hB.its _ (Nat.le_refl _)
  · exact (hB.its _ (Nat.le_refl _)).wth sd
theorem Bd.day {D : LD} {T : ST} (hB : Bd T) (st : Nat) (sd : Int32) : Bd (dayT D st T sd) := by
  unfold dayT
  refine Bd.ps3 ?_ (Nat.min_le_left _ _)
  split
  · exact (hB.mid st sd).leav
  · exact hB.mid st sd
theorem left_eq {T T2 : ST} (h : T2 12 3 = T 12 3) : leftN T2 = leftN T := by unfold leftN; rw [h]
theorem lp_dayE {E : EV} {Q : OC → AH → Prop} {G : AH} {a l st q : Nat} {T : ST} {s2 : Int32} (hI : Isl G a T s2) (hb : T 12 3 ≤ 9999) (hq : q ≤ 1) (hQ : ∀ G1, Isl G1 a (tu T 12 3 (min 9999 (T 12 3 + 1))) s2 → Fr G G1 a → Q (.inl (some (.int (nI q)))) G1) : Wp E 6 0 0 kX1_passDay Q G (0, 0) 52 [.ref a, .ref l, .int (nI st), .int (nI q)] [] := by
  obtain ⟨i0, i1, i2, i3, i4, i5, i6, i7, i8, i9, i10, i11, i12, i13⟩ := id hI
  refine w_aload_n dX1_passDay_52 rfl ?_
  refine w_sipush (v := nI 9999) dX1_passDay_53 (by decide) ?_
  refine w_aload_n dX1_passDay_56 rfl ?_
  refine w_getf dX1_passDay_57 fl_X1_62 (by first | assumption | exact gs_at | (rw [gs_ne (by omega)]; (first | assumption | exact gs_at | (rw [gs_ne (by omega)]; (first | assumption | exact gs_at | (rw [gs_ne (by omega)]; (first | assumption | exact gs_at | (rw [gs_ne (by omega)]; (first | assumption | exact gs_at))))))))) rfl ?_
  refine w_iconst (v := nI 1) dX1_passDay_60 (by decide) ?_
  first | refine w_iaddN dX1_passDay_61 ?_ | refine w_iadd dX1_passDay_61 ?_
  refine wJ2u dX1_passDay_62 lk_X1_136 rfl (c_min (by omega) (by omega)) (Nat.le_of_ble_eq_true rfl) (Nat.le_of_ble_eq_true rfl) (Nat.le_of_ble_eq_true rfl) (Nat.le_of_ble_eq_true rfl) ?_
  refine w_pis15 (v := min 9999 (T 12 3 + 1)) hI dX1_passDay_65 fl_X1_62 (fun G9 hI9 hF9 => ?_)
  refine w_iload_n dX1_passDay_68 rfl ?_
  refine w_zret dX1_passDay_69 rfl (show narrow .boolean (.int (nI q)) = .int (nI q) by rcases (show q = 0 ∨ q = 1 by omega) with rfl | rfl <;> rfl) (Nat.le_of_ble_eq_true rfl) (Nat.le_of_ble_eq_true rfl) ?_
  exact hQ G9 hI9 hF9
theorem lp_day3 {E : EV} {Q : OC → AH → Prop} {G0 G : AH} {a l st : Nat} {T : ST} {sd : Int32} {D : LD} {x : Nat} (hD : WFD D) (hB : Bd T) (hla : l + 6 ≤ a ∨ a + 14 ≤ l) (hI : Isl G a (midT D st T sd) (dayS D st T sd)) (hL : Lw G l D) (hF : Fr2 G0 G a l) (hQ : ∀ G1, Isl G1 a (dayT D st T sd) (dayS D st T sd) → Lw G1 l D → Fr2 G0 G1 a l → Q (.inl (some (.int (nI (b2 (leftN T = 1)))))) G1) (hl : leftN T = 1) : Wp E 6 0 0 kX1_passDay Q G (0, 0) 43 [.ref a, .ref l, .int (nI st), .int (nI x)] [.int (nI 1)] := by
  obtain ⟨i0, i1, i2, i3, i4, i5, i6, i7, i8, i9, i10, i11, i12, i13⟩ := id hI
  have hBm := hB.mid (D := D) st sd
  have e3 := midT_12 D st T sd 3
  have hb15 := hB.2.2.2.2.2.2.2.2.2.2.2.2.2.2.2.1
  refine w_istore_3 dX1_passDay_43 rfl ?_
  refine w_iload_n dX1_passDay_44 rfl ?_
  refine w_ifN_eq (tgt := 52) dX1_passDay_45 (by decide) (fun c9 => absurd c9 (by decide)) (fun c_45 => ?_)
  refine w_aload_n dX1_passDay_48 rfl ?_
  refine wV0d dX1_passDay_49 lk_X1_133 rfl (by first | assumption | exact gs_at | (rw [gs_ne (by omega)]; (first | assumption | exact gs_at | (rw [gs_ne (by omega)]; (first | assumption | exact gs_at | (rw [gs_ne (by omega)]; (first | assumption | exact gs_at | (rw [gs_ne (by omega)]; (first | assumption | exact gs_at))))))))) rfl rfl (c_leave hI hBm) (Nat.le_of_ble_eq_true rfl) (Nat.le_of_ble_eq_true rfl) (Nat.le_of_ble_eq_true rfl) (Nat.le_of_ble_eq_true rfl) (fun G2 h_49 => ?_)
  obtain ⟨hI2, hF2⟩ := h_49
  have e4 := (leavT_12 (midT D st T sd) (show 3 ≠ 4 by decide) (show 3 ≠ 5 by decide) (show 3 ≠ 6 by decide)).trans e3
  refine lp_dayE hI2 (by omega) (by omega) (fun G1 h1 h2 => ?_)
  have h9 := hQ G1 (by rw [dayT, if_pos hl, ← e4]; exact h1) ((hL.fr hF2 hla).fr h2 hla) (hF.tr (hF2.to2.tr h2.to2))
  rw [show b2 (leftN T = 1) = 1 from if_pos hl] at h9; exact h9
theorem lp_day4 {E : EV} {Q : OC → AH → Prop} {G0 G : AH} {a l st : Nat} {T : ST} {sd : Int32} {D : LD} {x : Nat} (hD : WFD D) (hB : Bd T) (hla : l + 6 ≤ a ∨ a + 14 ≤ l) (hI : Isl G a (midT D st T sd) (dayS D st T sd)) (hL : Lw G l D) (hF : Fr2 G0 G a l) (hQ : ∀ G1, Isl G1 a (dayT D st T sd) (dayS D st T sd) → Lw G1 l D → Fr2 G0 G1 a l → Q (.inl (some (.int (nI (b2 (leftN T = 1)))))) G1) (hl : ¬ leftN T = 1) : Wp E 6 0 0 kX1_passDay Q G (0, 0) 43 [.ref a, .ref l, .int (nI st), .int (nI x)] [.int (nI 0)] := by
  obtain ⟨i0, i1, i2, i3, i4, i5, i6, i7, i8, i9, i10, i11, i12, i13⟩ := id hI
  have hBm := hB.mid (D := D) st sd
  have e3 := midT_12 D st T sd 3
  have hb15 := hB.2.2.2.2.2.2.2.2.2.2.2.2.2.2.2.1
  refine w_istore_3 dX1_passDay_43 rfl ?_
  refine w_iload_n dX1_passDay_44 rfl ?_
  refine w_ifN_eq (tgt := 52) dX1_passDay_45 (by decide) (fun c_45 => ?_) (fun c9 => absurd (by decide) c9)
  refine lp_dayE hI (by omega) (by omega) (fun G1 h1 h2 => ?_)
  have h9 := hQ G1 (by rw [dayT, if_neg hl, ← e3]; exact h1) (hL.fr h2 hla) (hF.tr h2.to2)
  rw [show b2 (leftN T = 1) = 0 from if_neg hl] at h9; exact h9
theorem lp_day2 {E : EV} {Q : OC → AH → Prop} {G0 G : AH} {a l st : Nat} {T : ST} {sd : Int32} {D : LD} {x : Nat} (hD : WFD D) (hB : Bd T) (hla : l + 6 ≤ a ∨ a + 14 ≤ l) (hI : Isl G a (midT D st T sd) (dayS D st T sd)) (hL : Lw G l D) (hF : Fr2 G0 G a l) (hQ : ∀ G1, Isl G1 a (dayT D st T sd) (dayS D st T sd) → Lw G1 l D → Fr2 G0 G1 a l → Q (.inl (some (.int (nI (b2 (leftN T = 1)))))) G1) : Wp E 6 0 0 kX1_passDay Q G (0, 0) 30 [.ref a, .ref l, .int (nI st), .int (nI x)] [] := by
  obtain ⟨i0, i1, i2, i3, i4, i5, i6, i7, i8, i9, i10, i11, i12, i13⟩ := id hI
  have hBm := hB.mid (D := D) st sd
  have e3 := midT_12 D st T sd 3
  have hb15 := hB.2.2.2.2.2.2.2.2.2.2.2.2.2.2.2.1
  have el : leftN (midT D st T sd) = leftN T := left_eq e3
  refine w_aload_n dX1_passDay_30 rfl ?_
  refine wV0u dX1_passDay_31 lk_X1_113 rfl (by first | assumption | exact gs_at | (rw [gs_ne (by omega)]; (first | assumption | exact gs_at | (rw [gs_ne (by omega)]; (first | assumption | exact gs_at | (rw [gs_ne (by omega)]; (first | assumption | exact gs_at | (rw [gs_ne (by omega)]; (first | assumption | exact gs_at))))))))) rfl rfl (c_daysLeft hI hBm) (Nat.le_of_ble_eq_true rfl) (Nat.le_of_ble_eq_true rfl) (Nat.le_of_ble_eq_true rfl) (Nat.le_of_ble_eq_true rfl) ?_
  rw [el]
  have hle : leftN T ≤ 182 := Nat.sub_le _ _
  refine w_iconst (v := nI 1) dX1_passDay_34 (by decide) ?_
  refine w_icmp_ne (tgt := 42) dX1_passDay_35 (by decide) (fun c_35 => ?_) (fun c_35 => ?_)
  · try simp (disch := omega) only [nI_eq, ne_eq, Decidable.not_not] at c_35
    refine w_iconst (v := nI 0) dX1_passDay_42 (by decide) ?_
    first
      | exact lp_day3 hD hB hla hI hL hF hQ c_35
      | exact lp_day4 hD hB hla hI hL hF hQ c_35
  · try simp (disch := omega) only [nI_eq, ne_eq, Decidable.not_not] at c_35
    refine w_iconst (v := nI 1) dX1_passDay_38 (by decide) ?_
    refine w_goto (tgt := 43) dX1_passDay_39 (by decide) ?_
    first
      | exact lp_day3 hD hB hla hI hL hF hQ c_35
      | exact lp_day4 hD hB hla hI hL hF hQ c_35
theorem c_passDay {E : EV} {a : Nat} {T : ST} {sd : Int32} {G : AH} {l st : Nat} {D : LD} (hL : Lw G l D) (hD : WFD D) (hI : Isl G a T sd) (hB : Bd T) (hst : st ≤ 1) (hla : l + 6 ≤ a ∨ a + 14 ≤ l) : Ci E 6 kX1_passDay [.ref a, .ref l, .int (nI st)] G (fun r G1 => r = nI (b2 (leftN T = 1)) ∧ Isl G1 a (dayT D st T sd) (dayS D st T sd) ∧ Lw G1 l D ∧ Fr2 G G1 a l) := by
  refine Ct.intro rfl (by decide) [.ref a, .ref l, .int (nI st), .float 0] (by simp [Value.category]) (Nat.le_of_ble_eq_true rfl) rfl ?_
  refine w_iconst (v := nI 0) dX1_passDay_0 (by decide) ?_
  refine w_istore_3 dX1_passDay_1 rfl ?_
  refine lp_passItems hD hB hla (fun G1 hI1 hL1 hF1 => ?_) (T 12 0 + 1) 0 G (by omega) (by omega) hI hL Fr2.rf
  obtain ⟨i0, i1, i2, i3, i4, i5, i6, i7, i8, i9, i10, i11, i12, i13⟩ := id hI1
  refine w_iload_n dX1_passDay_22 rfl ?_
  refine w_ifN_eq (tgt := 30) dX1_passDay_23 (by decide) (fun c_23 => ?_) (fun c_23 => ?_)
  · try simp (disch := omega) only [nI_eq] at c_23
    first
      | exact lp_day2 hD hB hla (by rw [midT, if_neg c_23, dayS, if_neg c_23]; exact hI2) (hL1.fr hF2 hla) (hF1.tr hF2.to2) (fun G3 h1 h2 h3 => ⟨_, rfl, rfl, h1, h2, h3⟩)
      | exact lp_day2 hD hB hla (by rw [midT, if_pos c_23, dayS, if_pos c_23]; exact hI1) hL1 hF1 (fun G3 h1 h2 h3 => ⟨_, rfl, rfl, h1, h2, h3⟩)
  · try simp (disch := omega) only [nI_eq] at c_23
    refine w_aload_n dX1_passDay_26 rfl ?_
    refine wV0d dX1_passDay_27 lk_X1_130 rfl (by first | assumption | exact gs_at | (rw [gs_ne (by omega)]; (first | assumption | exact gs_at | (rw [gs_ne (by omega)]; (first | assumption | exact gs_at | (rw [gs_ne (by omega)]; (first | assumption | exact gs_at | (rw [gs_ne (by omega)]; (first | assumption | exact gs_at))))))))) rfl rfl (c_passWeather hI1 (hB.its _ (Nat.le_refl _))) (Nat.le_of_ble_eq_true rfl) (Nat.le_of_ble_eq_true rfl) (Nat.le_of_ble_eq_true rfl) (Nat.le_of_ble_eq_true rfl) (fun G2 h_27 => ?_)
    obtain ⟨hI2, hF2⟩ := h_27
    first
      | exact lp_day2 hD hB hla (by rw [midT, if_neg c_23, dayS, if_neg c_23]; exact hI2) (hL1.fr hF2 hla) (hF1.tr hF2.to2) (fun G3 h1 h2 h3 => ⟨_, rfl, rfl, h1, h2, h3⟩)
      | exact lp_day2 hD hB hla (by rw [midT, if_pos c_23, dayS, if_pos c_23]; exact hI1) hL1 hF1 (fun G3 h1 h2 h3 => ⟨_, rfl, rfl, h1, h2, h3⟩)
