/-! a text of deeds, read into an island -/
def nOf (x : Int32) : Nat := x.toUInt32.toNat
theorem nI_nOf (x : Int32) : nI (nOf x) = x := by
  show (⟨UInt32.ofNat x.toUInt32.toNat⟩ : Int32) = x
  rw [UInt32.ofNat_toNat]
theorem nOf_nI {v : Nat} (h : v < 2 ^ 32) : nOf (nI v) = v := by
  show (UInt32.ofNat v).toNat = v
  rw [UInt32.toNat_ofNat']; omega
def cellT (T : ST) (f N : Nat) (c x : Int32) : ST := if c < nI 0 then T else if nI N ≤ c then T else tu T f c.toNatClampNeg (nOf x)
def Fr4 (G G' : AH) (a r : Nat) : Prop := G'.2 = G.2 ∧ ∀ q, q ≠ r → (q < a ∨ a + 14 ≤ q) → G'.1 q = G.1 q
theorem Fr4.rf {G : AH} {a r : Nat} : Fr4 G G a r := ⟨rfl, fun _ _ _ => rfl⟩
theorem Fr4.tr {G G1 G2 : AH} {a r : Nat} (h1 : Fr4 G G1 a r) (h2 : Fr4 G1 G2 a r) : Fr4 G G2 a r := ⟨h2.1.trans h1.1, fun q hq h => (h2.2 q hq h).trans (h1.2 q hq h)⟩
theorem Fr.to4 {G G' : AH} {a r : Nat} (h : Fr G G' a) : Fr4 G G' a r := ⟨h.1, fun q _ hq => h.2 q hq⟩
theorem FrR.to4 {G G' : AH} {a r : Nat} (h : FrR G G' r) : Fr4 G G' a r := ⟨h.1, fun q hq _ => h.2 q hq⟩
theorem Isl.same {G G' : AH} {a : Nat} {T : ST} {sd : Int32} (h : Isl G a T sd) (e : ∀ q, a ≤ q → q < a + 14 → G'.1 q = G.1 q) : Isl G' a T sd := by
  obtain ⟨i0, i1, i2, i3, i4, i5, i6, i7, i8, i9, i10, i11, i12, i13⟩ := h
  exact ⟨(e _ (by omega) (by omega)).trans i0, (e _ (by omega) (by omega)).trans i1, (e _ (by omega) (by omega)).trans i2, (e _ (by omega) (by omega)).trans i3, (e _ (by omega) (by omega)).trans i4, (e _ (by omega) (by omega)).trans i5, (e _ (by omega) (by omega)).trans i6, (e _ (by omega) (by omega)).trans i7, (e _ (by omega) (by omega)).trans i8, (e _ (by omega) (by omega)).trans i9, (e _ (by omega) (by omega)).trans i10, (e _ (by omega) (by omega)).trans i11, (e _ (by omega) (by omega)).trans i12, (e _ (by omega) (by omega)).trans i13⟩
theorem Isl.frR {G G' : AH} {a r : Nat} {T : ST} {sd : Int32} (h : Isl G a T sd) (hF : FrR G G' r) (hd : r < a ∨ a + 14 ≤ r) : Isl G' a T sd := h.same (fun q h1 h2 => hF.2 q (by omega))
theorem row_eq {G G1 : AH} {q N : Nat} {g : Nat → Nat} {c x : Int32} (h : G1.1 q = some (aI N (puV N (fun i => nI (g i)) c x))) : G1.1 q = some (aI N (if c < nI 0 then fun i => nI (g i) else if nI N ≤ c then fun i => nI (g i) else upd (fun i => nI (g i)) c.toNatClampNeg x)) := h
theorem Isl.cell9 {G G1 : AH} {a r : Nat} {T : ST} {sd c x : Int32} (h : Isl G a T sd) (hq : G1.1 (a + 10) = some (aI 2 (puV 2 (fun i => nI (T 9 i)) c x))) (hF : ∀ q, q ≠ r → q ≠ a + 10 → G1.1 q = G.1 q) (hr : r < a ∨ a + 14 ≤ r) : Isl G1 a (cellT T 9 2 c x) sd := by
  unfold puV at hq
  unfold cellT
  split
  · next h1 =>
    rw [if_pos h1] at hq
    exact h.same (fun q h2 h3 => by
      by_cases hq9 : q = a + 10
      · subst hq9; exact hq.trans h.2.2.2.2.2.2.2.2.2.2.1.symm
      · exact hF q (by omega) hq9)
  · next h1 =>
    rw [if_neg h1] at hq
    split
    · next h2 =>
      rw [if_pos h2] at hq
      exact h.same (fun q h2 h3 => by
        by_cases hq9 : q = a + 10
        · subst hq9; exact hq.trans h.2.2.2.2.2.2.2.2.2.2.1.symm
        · exact hF q (by omega) hq9)
    · next h2 =>
      rw [if_neg h2] at hq
      have h9 := h.pu9 c.toNatClampNeg (nOf x)
      rw [nI_nOf] at h9
      refine h9.same (fun q h3 h4 => ?_)
      by_cases hq9 : q = a + 10
      · subst hq9; exact hq.trans gs_at.symm
      · exact (hF q (by omega) hq9).trans (gs_ne hq9).symm
theorem Isl.cell7 {G G1 : AH} {a r : Nat} {T : ST} {sd c x : Int32} (h : Isl G a T sd) (hq : G1.1 (a + 8) = some (aI 6 (puV 6 (fun i => nI (T 7 i)) c x))) (hF : ∀ q, q ≠ r → q ≠ a + 8 → G1.1 q = G.1 q) (hr : r < a ∨ a + 14 ≤ r) : Isl G1 a (cellT T 7 6 c x) sd := by
  unfold puV at hq
  unfold cellT
  split
  · next h1 =>
    rw [if_pos h1] at hq
    exact h.same (fun q h2 h3 => by
      by_cases hq9 : q = a + 8
      · subst hq9; exact hq.trans h.2.2.2.2.2.2.2.2.1.symm
      · exact hF q (by omega) hq9)
  · next h1 =>
    rw [if_neg h1] at hq
    split
    · next h2 =>
      rw [if_pos h2] at hq
      exact h.same (fun q h2 h3 => by
        by_cases hq9 : q = a + 8
        · subst hq9; exact hq.trans h.2.2.2.2.2.2.2.2.1.symm
        · exact hF q (by omega) hq9)
    · next h2 =>
      rw [if_neg h2] at hq
      have h9 := h.pu7 c.toNatClampNeg (nOf x)
      rw [nI_nOf] at h9
      refine h9.same (fun q h3 h4 => ?_)
      by_cases hq9 : q = a + 8
      · subst hq9; exact hq.trans gs_at.symm
      · exact (hF q (by omega) hq9).trans (gs_ne hq9).symm
theorem Isl.cell8 {G G1 : AH} {a r : Nat} {T : ST} {sd c x : Int32} (h : Isl G a T sd) (hq : G1.1 (a + 9) = some (aI 6 (puV 6 (fun i => nI (T 8 i)) c x))) (hF : ∀ q, q ≠ r → q ≠ a + 9 → G1.1 q = G.1 q) (hr : r < a ∨ a + 14 ≤ r) : Isl G1 a (cellT T 8 6 c x) sd := by
  unfold puV at hq
  unfold cellT
  split
  · next h1 =>
    rw [if_pos h1] at hq
    exact h.same (fun q h2 h3 => by
      by_cases hq9 : q = a + 9
      · subst hq9; exact hq.trans h.2.2.2.2.2.2.2.2.2.1.symm
      · exact hF q (by omega) hq9)
  · next h1 =>
    rw [if_neg h1] at hq
    split
    · next h2 =>
      rw [if_pos h2] at hq
      exact h.same (fun q h2 h3 => by
        by_cases hq9 : q = a + 9
        · subst hq9; exact hq.trans h.2.2.2.2.2.2.2.2.2.1.symm
        · exact hF q (by omega) hq9)
    · next h2 =>
      rw [if_neg h2] at hq
      have h9 := h.pu8 c.toNatClampNeg (nOf x)
      rw [nI_nOf] at h9
      refine h9.same (fun q h3 h4 => ?_)
      by_cases hq9 : q = a + 9
      · subst hq9; exact hq.trans gs_at.symm
      · exact (hF q (by omega) hq9).trans (gs_ne hq9).symm
theorem Isl.cell2 {G G1 : AH} {a r : Nat} {T : ST} {sd c x : Int32} (h : Isl G a T sd) (hq : G1.1 (a + 3) = some (aI 12 (puV 12 (fun i => nI (T 2 i)) c x))) (hF : ∀ q, q ≠ r → q ≠ a + 3 → G1.1 q = G.1 q) (hr : r < a ∨ a + 14 ≤ r) : Isl G1 a (cellT T 2 12 c x) sd := by
  unfold puV at hq
  unfold cellT
  split
  · next h1 =>
    rw [if_pos h1] at hq
    exact h.same (fun q h2 h3 => by
      by_cases hq9 : q = a + 3
      · subst hq9; exact hq.trans h.2.2.2.1.symm
      · exact hF q (by omega) hq9)
  · next h1 =>
    rw [if_neg h1] at hq
    split
    · next h2 =>
      rw [if_pos h2] at hq
      exact h.same (fun q h2 h3 => by
        by_cases hq9 : q = a + 3
        · subst hq9; exact hq.trans h.2.2.2.1.symm
        · exact hF q (by omega) hq9)
    · next h2 =>
      rw [if_neg h2] at hq
      have h9 := h.pu2 c.toNatClampNeg (nOf x)
      rw [nI_nOf] at h9
      refine h9.same (fun q h3 h4 => ?_)
      by_cases hq9 : q = a + 3
      · subst hq9; exact hq.trans gs_at.symm
      · exact (hF q (by omega) hq9).trans (gs_ne hq9).symm
theorem upG {G G1 G2 : AH} {r q : Nat} (h1 : FrR G G1 r) (h2 : FrR G1 G2 r) (x : HC) : (gs G2 q x).2 = G.2 ∧ ∀ p, p ≠ r → p ≠ q → (gs G2 q x).1 p = G.1 p := ⟨h2.1.trans h1.1, fun p a b => (gs_ne b).trans ((h2.2 p a).trans (h1.2 p a))⟩
theorem c_readCell {E : EV} {d r n : Nat} {y : Nat → Nat} {s : RS} {G : AH} {q N hi1 mo1 : Nat} {g : Nat → Int32} {mo cl : Int32} (hd : G.1 d = some (oB 0 [.ref r])) (hdr : d ≠ r) (hR : Rd G r y n s) (hq : G.1 q = some (aI N g)) (hqr : q ≠ r) (hN : N < 2 ^ 31) (hq1 : q ≠ r + 1) (hh : cl - nI 1 = nI hi1 - nI 1) (hm : mo = nI mo1 - nI 1) (h1 : hi1 < 2 ^ 20) (h2 : mo1 < 2 ^ 20) : Cd E 4 kX0_readCell [.ref d, .ref q, .int cl, .int mo] G (fun G1 => Rd G1 r y n (sNum y n 0 mo1 (sNum y n 0 hi1 s)) ∧ G1.1 q = some (aI N (puV N g (vNum y n 0 hi1 s) (vNum y n 0 mo1 (sNum y n 0 hi1 s)))) ∧ G1.2 = G.2 ∧ ∀ p, p ≠ r → p ≠ q → G1.1 p = G.1 p) := by
  obtain ⟨r0, r1, -⟩ := id hR
  refine Ct.intro rfl (by decide) [.ref d, .ref q, .int cl, .int mo, .float 0] (by simp [Value.category]) (Nat.le_of_ble_eq_true rfl) rfl ?_
  refine w_aload_n dX0_readCell_0 rfl ?_
  refine w_getf dX0_readCell_1 fl_X0_12 (by first | assumption | exact gs_at | (rw [gs_ne (by omega)]; (first | assumption | exact gs_at | (rw [gs_ne (by omega)]; (first | assumption | exact gs_at | (rw [gs_ne (by omega)]; (first | assumption | exact gs_at | (rw [gs_ne (by omega)]; (first | assumption | exact gs_at))))))))) rfl ?_
  refine w_iconst (v := nI 0) dX0_readCell_4 (by decide) ?_
  refine w_iload_n dX0_readCell_5 rfl ?_
  refine w_iconst (v := nI 1) dX0_readCell_6 (by decide) ?_
  refine w_isub dX0_readCell_7 ?_
  refine wV2i dX0_readCell_8 lk_X0_82 rfl (by first | assumption | exact gs_at | (rw [gs_ne (by omega)]; (first | assumption | exact gs_at | (rw [gs_ne (by omega)]; (first | assumption | exact gs_at | (rw [gs_ne (by omega)]; (first | assumption | exact gs_at | (rw [gs_ne (by omega)]; (first | assumption | exact gs_at))))))))) rfl rfl (c_number hR hh (by decide) h1) (Nat.le_of_ble_eq_true rfl) (Nat.le_of_ble_eq_true rfl) (Nat.le_of_ble_eq_true rfl) (Nat.le_of_ble_eq_true rfl) (fun r_8 G1 h_8 => ?_)
  obtain ⟨rfl, hR1, hF1⟩ := h_8
  obtain ⟨r0, r1, -⟩ := id hR1
  have hd1 := (hF1.2 _ hdr).trans hd
  have hq2 := (hF1.2 _ hqr).trans hq
  refine w_istore_4 dX0_readCell_11 rfl ?_
  refine w_aload_n dX0_readCell_13 rfl ?_
  refine w_iload dX0_readCell_14 rfl ?_
  refine w_aload_n dX0_readCell_16 rfl ?_
  refine w_getf dX0_readCell_17 fl_X0_12 (by first | assumption | exact gs_at | (rw [gs_ne (by omega)]; (first | assumption | exact gs_at | (rw [gs_ne (by omega)]; (first | assumption | exact gs_at | (rw [gs_ne (by omega)]; (first | assumption | exact gs_at | (rw [gs_ne (by omega)]; (first | assumption | exact gs_at))))))))) rfl ?_
  refine w_iconst (v := nI 0) dX0_readCell_20 (by decide) ?_
  refine w_iload_n dX0_readCell_21 rfl ?_
  refine wV2i dX0_readCell_22 lk_X0_82 rfl (by first | assumption | exact gs_at | (rw [gs_ne (by omega)]; (first | assumption | exact gs_at | (rw [gs_ne (by omega)]; (first | assumption | exact gs_at | (rw [gs_ne (by omega)]; (first | assumption | exact gs_at | (rw [gs_ne (by omega)]; (first | assumption | exact gs_at))))))))) rfl rfl (c_number hR1 hm (by decide) h2) (Nat.le_of_ble_eq_true rfl) (Nat.le_of_ble_eq_true rfl) (Nat.le_of_ble_eq_true rfl) (Nat.le_of_ble_eq_true rfl) (fun r_22 G2 h_22 => ?_)
  obtain ⟨rfl, hR2, hF2⟩ := h_22
  have hq3 := (hF2.2 _ hqr).trans hq2
  refine wN3n dX0_readCell_25 lk_X0_92 rfl (c_put hq3 hN) (Nat.le_of_ble_eq_true rfl) (Nat.le_of_ble_eq_true rfl) (Nat.le_of_ble_eq_true rfl) (Nat.le_of_ble_eq_true rfl) ?_
  refine w_vret dX0_readCell_28 rfl (Nat.le_of_ble_eq_true rfl) (Nat.le_of_ble_eq_true rfl) ?_
  refine ⟨rfl, ⟨(gs_ne (Ne.symm hqr)).trans hR2.1, (gs_ne (Ne.symm hq1)).trans hR2.2.1, hR2.2.2⟩, gs_at, upG hF1 hF2 _⟩
def rdItem (y : Nat → Nat) (n : Nat) (s : RS) (T : ST) : RS × ST :=
  if ¬ T 12 0 < 12 then (sRf s, T) else
  let s1 := sNd y n [105, 116, 101, 109] s
  let s2 := sNum y n 1 100 s1
  let s3 := sNd y n [104, 111, 109, 101] s2
  let s4 := sNum y n 0 6 s3
  let s5 := sNd y n [115, 105, 100, 101] s4
  let s6 := sNum y n 0 2 s5
  let s7 := sTk y n [105, 110] s6
  if atB y n s6.1 [105, 110] = true then (sNum y n 0 6 s7, itemT T (nOf (vNum y n 1 100 s1)) (nOf (vNum y n 0 6 s3)) (nOf (vNum y n 0 2 s5)) (nOf (vNum y n 0 6 s7)))
  else (s7, itemT T (nOf (vNum y n 1 100 s1)) (nOf (vNum y n 0 6 s3)) (nOf (vNum y n 0 2 s5)) (nOf (vNum y n 0 6 s3)))
theorem Rd.frI {G G1 : AH} {a r n : Nat} {y : Nat → Nat} {s : RS} (h : Rd G r y n s) (hF : Fr G G1 a) (h1 : r < a ∨ a + 14 ≤ r) (h2 : r + 1 < a ∨ a + 14 ≤ r + 1) : Rd G1 r y n s := ⟨(hF.2 _ h1).trans h.1, (hF.2 _ h2).trans h.2.1, h.2.2⟩
theorem c_readItem {E : EV} {d r n : Nat} {y : Nat → Nat} {s : RS} {G : AH} {a : Nat} {T : ST} {sd : Int32} (hd : G.1 d = some (oB 0 [.ref r])) (hdr : d ≠ r) (hR : Rd G r y n s) (hI : Isl G a T sd) (h12 : T 12 0 ≤ 12) (hra : r < a ∨ a + 14 ≤ r) (hr2 : r + 1 < a ∨ a + 14 ≤ r + 1) (hda : d < a ∨ a + 14 ≤ d) : Cd E 10 kX0_readItem [.ref d, .ref a] G (fun G1 => Rd G1 r y n (rdItem y n s T).1 ∧ Isl G1 a (rdItem y n s T).2 sd ∧ Fr4 G G1 a r) := by
  obtain ⟨r0, r1, -⟩ := id hR
  obtain ⟨i0, i1, i2, i3, i4, i5, i6, i7, i8, i9, i10, i11, i12, i13⟩ := id hI
  have hFF : Fr4 G G a r := Fr4.rf
  refine Ct.intro rfl (by decide) [.ref d, .ref a, .float 0, .float 0, .float 0, .float 0] (by simp [Value.category]) (Nat.le_of_ble_eq_true rfl) rfl ?_
  refine w_aload_n dX0_readItem_0 rfl ?_
  refine w_getf dX0_readItem_1 fl_X0_77 (by first | assumption | exact gs_at | (rw [gs_ne (by omega)]; (first | assumption | exact gs_at | (rw [gs_ne (by omega)]; (first | assumption | exact gs_at | (rw [gs_ne (by omega)]; (first | assumption | exact gs_at | (rw [gs_ne (by omega)]; (first | assumption | exact gs_at))))))))) rfl ?_
  refine w_bipush (v := nI 12) dX0_readItem_4 (by decide) ?_
  refine w_icmp_lt (tgt := 17) dX0_readItem_6 (by decide) (fun c_6 => ?_) (fun c_6 => ?_)
  · try simp (disch := omega) only [nI_b2, nI_ltI, nI_leI, nI_eq, ge_iff_le, gt_iff_lt, Nat.not_lt, Nat.not_le, ne_eq, Decidable.not_not] at c_6
    refine w_aload_n dX0_readItem_17 rfl ?_
    refine w_getf dX0_readItem_18 fl_X0_12 (by first | assumption | exact gs_at | (rw [gs_ne (by omega)]; (first | assumption | exact gs_at | (rw [gs_ne (by omega)]; (first | assumption | exact gs_at | (rw [gs_ne (by omega)]; (first | assumption | exact gs_at | (rw [gs_ne (by omega)]; (first | assumption | exact gs_at))))))))) rfl ?_
    refine w_ldcS (i := 0) rfl rfl dX0_readItem_21 ?_
    refine wV1d dX0_readItem_23 lk_X0_95 rfl (by first | assumption | exact gs_at | (rw [gs_ne (by omega)]; (first | assumption | exact gs_at | (rw [gs_ne (by omega)]; (first | assumption | exact gs_at | (rw [gs_ne (by omega)]; (first | assumption | exact gs_at | (rw [gs_ne (by omega)]; (first | assumption | exact gs_at))))))))) rfl rfl (c_needs (ws := [105, 116, 101, 109]) rfl rfl (by decide) (by decide) hR) (Nat.le_of_ble_eq_true rfl) (Nat.le_of_ble_eq_true rfl) (Nat.le_of_ble_eq_true rfl) (Nat.le_of_ble_eq_true rfl) (fun G h_23 => ?_)
    obtain ⟨hR, hF1⟩ := h_23
    obtain ⟨r0, r1, -⟩ := id hR
    have hd := (hF1.2 _ hdr).trans hd
    have hI := hI.frR hF1 hra
    have hFF := hFF.tr hF1.to4
    obtain ⟨i0, i1, i2, i3, i4, i5, i6, i7, i8, i9, i10, i11, i12, i13⟩ := id hI
    refine w_aload_n dX0_readItem_26 rfl ?_
    refine w_getf dX0_readItem_27 fl_X0_12 (by first | assumption | exact gs_at | (rw [gs_ne (by omega)]; (first | assumption | exact gs_at | (rw [gs_ne (by omega)]; (first | assumption | exact gs_at | (rw [gs_ne (by omega)]; (first | assumption | exact gs_at | (rw [gs_ne (by omega)]; (first | assumption | exact gs_at))))))))) rfl ?_
    refine w_iconst (v := nI 1) dX0_readItem_30 (by decide) ?_
    refine w_bipush (v := nI 99) dX0_readItem_31 (by decide) ?_
    refine wV2i dX0_readItem_33 lk_X0_82 rfl (by first | assumption | exact gs_at | (rw [gs_ne (by omega)]; (first | assumption | exact gs_at | (rw [gs_ne (by omega)]; (first | assumption | exact gs_at | (rw [gs_ne (by omega)]; (first | assumption | exact gs_at | (rw [gs_ne (by omega)]; (first | assumption | exact gs_at))))))))) rfl rfl (c_number (hi1 := 100) hR (by decide) (by decide) (by decide)) (Nat.le_of_ble_eq_true rfl) (Nat.le_of_ble_eq_true rfl) (Nat.le_of_ble_eq_true rfl) (Nat.le_of_ble_eq_true rfl) (fun r_33 G h_33 => ?_)
    obtain ⟨rfl, hR, hF1⟩ := h_33
    obtain ⟨r0, r1, -⟩ := id hR
    have hd := (hF1.2 _ hdr).trans hd
    have hI := hI.frR hF1 hra
    have hFF := hFF.tr hF1.to4
    obtain ⟨i0, i1, i2, i3, i4, i5, i6, i7, i8, i9, i10, i11, i12, i13⟩ := id hI
    refine w_istore_2 dX0_readItem_36 rfl ?_
    refine w_aload_n dX0_readItem_37 rfl ?_
    refine w_getf dX0_readItem_38 fl_X0_12 (by first | assumption | exact gs_at | (rw [gs_ne (by omega)]; (first | assumption | exact gs_at | (rw [gs_ne (by omega)]; (first | assumption | exact gs_at | (rw [gs_ne (by omega)]; (first | assumption | exact gs_at | (rw [gs_ne (by omega)]; (first | assumption | exact gs_at))))))))) rfl ?_
    refine w_ldcS (i := 1) rfl rfl dX0_readItem_41 ?_
    refine wV1d dX0_readItem_43 lk_X0_95 rfl (by first | assumption | exact gs_at | (rw [gs_ne (by omega)]; (first | assumption | exact gs_at | (rw [gs_ne (by omega)]; (first | assumption | exact gs_at | (rw [gs_ne (by omega)]; (first | assumption | exact gs_at | (rw [gs_ne (by omega)]; (first | assumption | exact gs_at))))))))) rfl rfl (c_needs (ws := [104, 111, 109, 101]) rfl rfl (by decide) (by decide) hR) (Nat.le_of_ble_eq_true rfl) (Nat.le_of_ble_eq_true rfl) (Nat.le_of_ble_eq_true rfl) (Nat.le_of_ble_eq_true rfl) (fun G h_43 => ?_)
    obtain ⟨hR, hF1⟩ := h_43
    obtain ⟨r0, r1, -⟩ := id hR
    have hd := (hF1.2 _ hdr).trans hd
    have hI := hI.frR hF1 hra
    have hFF := hFF.tr hF1.to4
    obtain ⟨i0, i1, i2, i3, i4, i5, i6, i7, i8, i9, i10, i11, i12, i13⟩ := id hI
    refine w_aload_n dX0_readItem_46 rfl ?_
    refine w_getf dX0_readItem_47 fl_X0_12 (by first | assumption | exact gs_at | (rw [gs_ne (by omega)]; (first | assumption | exact gs_at | (rw [gs_ne (by omega)]; (first | assumption | exact gs_at | (rw [gs_ne (by omega)]; (first | assumption | exact gs_at | (rw [gs_ne (by omega)]; (first | assumption | exact gs_at))))))))) rfl ?_
    refine w_iconst (v := nI 0) dX0_readItem_50 (by decide) ?_
    refine w_iconst (v := nI 5) dX0_readItem_51 (by decide) ?_
    refine wV2i dX0_readItem_52 lk_X0_82 rfl (by first | assumption | exact gs_at | (rw [gs_ne (by omega)]; (first | assumption | exact gs_at | (rw [gs_ne (by omega)]; (first | assumption | exact gs_at | (rw [gs_ne (by omega)]; (first | assumption | exact gs_at | (rw [gs_ne (by omega)]; (first | assumption | exact gs_at))))))))) rfl rfl (c_number (hi1 := 6) hR (by decide) (by decide) (by decide)) (Nat.le_of_ble_eq_true rfl) (Nat.le_of_ble_eq_true rfl) (Nat.le_of_ble_eq_true rfl) (Nat.le_of_ble_eq_true rfl) (fun r_52 G h_52 => ?_)
    obtain ⟨rfl, hR, hF1⟩ := h_52
    obtain ⟨r0, r1, -⟩ := id hR
    have hd := (hF1.2 _ hdr).trans hd
    have hI := hI.frR hF1 hra
    have hFF := hFF.tr hF1.to4
    obtain ⟨i0, i1, i2, i3, i4, i5, i6, i7, i8, i9, i10, i11, i12, i13⟩ := id hI
    refine w_istore_3 dX0_readItem_55 rfl ?_
    refine w_aload_n dX0_readItem_56 rfl ?_
    refine w_getf dX0_readItem_57 fl_X0_12 (by first | assumption | exact gs_at | (rw [gs_ne (by omega)]; (first | assumption | exact gs_at | (rw [gs_ne (by omega)]; (first | assumption | exact gs_at | (rw [gs_ne (by omega)]; (first | assumption | exact gs_at | (rw [gs_ne (by omega)]; (first | assumption | exact gs_at))))))))) rfl ?_
    refine w_ldcS (i := 2) rfl rfl dX0_readItem_60 ?_
    refine wV1d dX0_readItem_62 lk_X0_95 rfl (by first | assumption | exact gs_at | (rw [gs_ne (by omega)]; (first | assumption | exact gs_at | (rw [gs_ne (by omega)]; (first | assumption | exact gs_at | (rw [gs_ne (by omega)]; (first | assumption | exact gs_at | (rw [gs_ne (by omega)]; (first | assumption | exact gs_at))))))))) rfl rfl (c_needs (ws := [115, 105, 100, 101]) rfl rfl (by decide) (by decide) hR) (Nat.le_of_ble_eq_true rfl) (Nat.le_of_ble_eq_true rfl) (Nat.le_of_ble_eq_true rfl) (Nat.le_of_ble_eq_true rfl) (fun G h_62 => ?_)
    obtain ⟨hR, hF1⟩ := h_62
    obtain ⟨r0, r1, -⟩ := id hR
    have hd := (hF1.2 _ hdr).trans hd
    have hI := hI.frR hF1 hra
    have hFF := hFF.tr hF1.to4
    obtain ⟨i0, i1, i2, i3, i4, i5, i6, i7, i8, i9, i10, i11, i12, i13⟩ := id hI
    refine w_aload_n dX0_readItem_65 rfl ?_
    refine w_getf dX0_readItem_66 fl_X0_12 (by first | assumption | exact gs_at | (rw [gs_ne (by omega)]; (first | assumption | exact gs_at | (rw [gs_ne (by omega)]; (first | assumption | exact gs_at | (rw [gs_ne (by omega)]; (first | assumption | exact gs_at | (rw [gs_ne (by omega)]; (first | assumption | exact gs_at))))))))) rfl ?_
    refine w_iconst (v := nI 0) dX0_readItem_69 (by decide) ?_
    refine w_iconst (v := nI 1) dX0_readItem_70 (by decide) ?_
    refine wV2i dX0_readItem_71 lk_X0_82 rfl (by first | assumption | exact gs_at | (rw [gs_ne (by omega)]; (first | assumption | exact gs_at | (rw [gs_ne (by omega)]; (first | assumption | exact gs_at | (rw [gs_ne (by omega)]; (first | assumption | exact gs_at | (rw [gs_ne (by omega)]; (first | assumption | exact gs_at))))))))) rfl rfl (c_number (hi1 := 2) hR (by decide) (by decide) (by decide)) (Nat.le_of_ble_eq_true rfl) (Nat.le_of_ble_eq_true rfl) (Nat.le_of_ble_eq_true rfl) (Nat.le_of_ble_eq_true rfl) (fun r_71 G h_71 => ?_)
    obtain ⟨rfl, hR, hF1⟩ := h_71
    obtain ⟨r0, r1, -⟩ := id hR
    have hd := (hF1.2 _ hdr).trans hd
    have hI := hI.frR hF1 hra
    have hFF := hFF.tr hF1.to4
    obtain ⟨i0, i1, i2, i3, i4, i5, i6, i7, i8, i9, i10, i11, i12, i13⟩ := id hI
    refine w_istore_4 dX0_readItem_74 rfl ?_
    refine w_aload_n dX0_readItem_76 rfl ?_
    refine w_getf dX0_readItem_77 fl_X0_12 (by first | assumption | exact gs_at | (rw [gs_ne (by omega)]; (first | assumption | exact gs_at | (rw [gs_ne (by omega)]; (first | assumption | exact gs_at | (rw [gs_ne (by omega)]; (first | assumption | exact gs_at | (rw [gs_ne (by omega)]; (first | assumption | exact gs_at))))))))) rfl ?_
    refine w_ldcS (i := 3) rfl rfl dX0_readItem_80 ?_
    refine wV1i dX0_readItem_82 lk_X0_38 rfl (by first | assumption | exact gs_at | (rw [gs_ne (by omega)]; (first | assumption | exact gs_at | (rw [gs_ne (by omega)]; (first | assumption | exact gs_at | (rw [gs_ne (by omega)]; (first | assumption | exact gs_at | (rw [gs_ne (by omega)]; (first | assumption | exact gs_at))))))))) rfl rfl (c_takes (ws := [105, 110]) rfl rfl (by decide) (by decide) hR) (Nat.le_of_ble_eq_true rfl) (Nat.le_of_ble_eq_true rfl) (Nat.le_of_ble_eq_true rfl) (Nat.le_of_ble_eq_true rfl) (fun r_82 G h_82 => ?_)
    obtain ⟨rfl, hR, hF1⟩ := h_82
    obtain ⟨r0, r1, -⟩ := id hR
    have hd := (hF1.2 _ hdr).trans hd
    have hI := hI.frR hF1 hra
    have hFF := hFF.tr hF1.to4
    obtain ⟨i0, i1, i2, i3, i4, i5, i6, i7, i8, i9, i10, i11, i12, i13⟩ := id hI
    refine w_ifN_eq (tgt := 100) dX0_readItem_85 (by decide) (fun c_85 => ?_) (fun c_85 => ?_)
    · try simp (disch := omega) only [nI_b2, nI_ltI, nI_leI, nI_eq, ge_iff_le, gt_iff_lt, Nat.not_lt, Nat.not_le, ne_eq, Decidable.not_not] at c_85
      refine w_iload_n dX0_readItem_100 rfl ?_
      refine w_istore_5 dX0_readItem_101 rfl ?_
      refine w_aload_n dX0_readItem_103 rfl ?_
      refine w_iload_n dX0_readItem_104 rfl ?_
      refine w_iload_n dX0_readItem_105 rfl ?_
      refine w_iload dX0_readItem_106 rfl ?_
      refine w_iload dX0_readItem_108 rfl ?_
      rw [← nI_nOf (vNum y n 1 100 (sNd y n [105, 116, 101, 109] s))]
      rw [← nI_nOf (vNum y n 0 6 _), ← nI_nOf (vNum y n 0 2 _)]
      try rw [← nI_nOf (vNum y n 0 6 (sTk _ _ _ _))]
      refine wV4d dX0_readItem_110 lk_X0_105 rfl (by first | assumption | exact gs_at | (rw [gs_ne (by omega)]; (first | assumption | exact gs_at | (rw [gs_ne (by omega)]; (first | assumption | exact gs_at | (rw [gs_ne (by omega)]; (first | assumption | exact gs_at | (rw [gs_ne (by omega)]; (first | assumption | exact gs_at))))))))) rfl rfl (c_addItem hI (by omega)) (Nat.le_of_ble_eq_true rfl) (Nat.le_of_ble_eq_true rfl) (Nat.le_of_ble_eq_true rfl) (Nat.le_of_ble_eq_true rfl) (fun G9 h_110 => ?_)
      obtain ⟨hI, hF2⟩ := h_110
      refine w_vret dX0_readItem_113 rfl (Nat.le_of_ble_eq_true rfl) (Nat.le_of_ble_eq_true rfl) ?_
      refine ⟨rfl, ?_⟩
      rw [rdItem, if_neg (by omega)]
      first
        | (rw [if_pos c_85]; exact ⟨hR.frI hF2 hra hr2, hI, hFF.tr hF2.to4⟩)
        | (rw [if_neg c_85]; exact ⟨hR.frI hF2 hra hr2, hI, hFF.tr hF2.to4⟩)
    · try simp (disch := omega) only [nI_b2, nI_ltI, nI_leI, nI_eq, ge_iff_le, gt_iff_lt, Nat.not_lt, Nat.not_le, ne_eq, Decidable.not_not] at c_85
      refine w_aload_n dX0_readItem_88 rfl ?_
      refine w_getf dX0_readItem_89 fl_X0_12 (by first | assumption | exact gs_at | (rw [gs_ne (by omega)]; (first | assumption | exact gs_at | (rw [gs_ne (by omega)]; (first | assumption | exact gs_at | (rw [gs_ne (by omega)]; (first | assumption | exact gs_at | (rw [gs_ne (by omega)]; (first | assumption | exact gs_at))))))))) rfl ?_
      refine w_iconst (v := nI 0) dX0_readItem_92 (by decide) ?_
      refine w_iconst (v := nI 5) dX0_readItem_93 (by decide) ?_
      refine wV2i dX0_readItem_94 lk_X0_82 rfl (by first | assumption | exact gs_at | (rw [gs_ne (by omega)]; (first | assumption | exact gs_at | (rw [gs_ne (by omega)]; (first | assumption | exact gs_at | (rw [gs_ne (by omega)]; (first | assumption | exact gs_at | (rw [gs_ne (by omega)]; (first | assumption | exact gs_at))))))))) rfl rfl (c_number (hi1 := 6) hR (by decide) (by decide) (by decide)) (Nat.le_of_ble_eq_true rfl) (Nat.le_of_ble_eq_true rfl) (Nat.le_of_ble_eq_true rfl) (Nat.le_of_ble_eq_true rfl) (fun r_94 G h_94 => ?_)
      obtain ⟨rfl, hR, hF1⟩ := h_94
      obtain ⟨r0, r1, -⟩ := id hR
      have hd := (hF1.2 _ hdr).trans hd
      have hI := hI.frR hF1 hra
      have hFF := hFF.tr hF1.to4
      obtain ⟨i0, i1, i2, i3, i4, i5, i6, i7, i8, i9, i10, i11, i12, i13⟩ := id hI
      refine w_goto (tgt := 101) dX0_readItem_97 (by decide) ?_
      refine w_istore_5 dX0_readItem_101 rfl ?_
      refine w_aload_n dX0_readItem_103 rfl ?_
      refine w_iload_n dX0_readItem_104 rfl ?_
      refine w_iload_n dX0_readItem_105 rfl ?_
      refine w_iload dX0_readItem_106 rfl ?_
      refine w_iload dX0_readItem_108 rfl ?_
      rw [← nI_nOf (vNum y n 1 100 (sNd y n [105, 116, 101, 109] s))]
      rw [← nI_nOf (vNum y n 0 6 _), ← nI_nOf (vNum y n 0 2 _)]
      try rw [← nI_nOf (vNum y n 0 6 (sTk _ _ _ _))]
      refine wV4d dX0_readItem_110 lk_X0_105 rfl (by first | assumption | exact gs_at | (rw [gs_ne (by omega)]; (first | assumption | exact gs_at | (rw [gs_ne (by omega)]; (first | assumption | exact gs_at | (rw [gs_ne (by omega)]; (first | assumption | exact gs_at | (rw [gs_ne (by omega)]; (first | assumption | exact gs_at))))))))) rfl rfl (c_addItem hI (by omega)) (Nat.le_of_ble_eq_true rfl) (Nat.le_of_ble_eq_true rfl) (Nat.le_of_ble_eq_true rfl) (Nat.le_of_ble_eq_true rfl) (fun G9 h_110 => ?_)
      obtain ⟨hI, hF2⟩ := h_110
      refine w_vret dX0_readItem_113 rfl (Nat.le_of_ble_eq_true rfl) (Nat.le_of_ble_eq_true rfl) ?_
      refine ⟨rfl, ?_⟩
      rw [rdItem, if_neg (by omega)]
      first
        | (rw [if_pos c_85]; exact ⟨hR.frI hF2 hra hr2, hI, hFF.tr hF2.to4⟩)
        | (rw [if_neg c_85]; exact ⟨hR.frI hF2 hra hr2, hI, hFF.tr hF2.to4⟩)
  · try simp (disch := omega) only [nI_b2, nI_ltI, nI_leI, nI_eq, ge_iff_le, gt_iff_lt, Nat.not_lt, Nat.not_le, ne_eq, Decidable.not_not] at c_6
    refine w_aload_n dX0_readItem_9 rfl ?_
    refine w_getf dX0_readItem_10 fl_X0_12 (by first | assumption | exact gs_at | (rw [gs_ne (by omega)]; (first | assumption | exact gs_at | (rw [gs_ne (by omega)]; (first | assumption | exact gs_at | (rw [gs_ne (by omega)]; (first | assumption | exact gs_at | (rw [gs_ne (by omega)]; (first | assumption | exact gs_at))))))))) rfl ?_
    refine wV0d dX0_readItem_13 lk_X0_26 rfl (by first | assumption | exact gs_at | (rw [gs_ne (by omega)]; (first | assumption | exact gs_at | (rw [gs_ne (by omega)]; (first | assumption | exact gs_at | (rw [gs_ne (by omega)]; (first | assumption | exact gs_at | (rw [gs_ne (by omega)]; (first | assumption | exact gs_at))))))))) rfl rfl (c_refuse hR) (Nat.le_of_ble_eq_true rfl) (Nat.le_of_ble_eq_true rfl) (Nat.le_of_ble_eq_true rfl) (Nat.le_of_ble_eq_true rfl) (fun G1 h_13 => ?_)
    obtain ⟨hR, hF1⟩ := h_13
    refine w_vret dX0_readItem_16 rfl (Nat.le_of_ble_eq_true rfl) (Nat.le_of_ble_eq_true rfl) ?_
    exact ⟨rfl, by rw [rdItem, if_pos (by omega)]; exact hR, by rw [rdItem, if_pos (by omega)]; exact hI.frR hF1 hra, hF1.to4⟩
