/-! a deed, a law, the end of the tape -/
theorem HI.deedR {G G1 : AH} {B tn im nw rm ru sp : Nat} {f : Nat → Nat} {wb sd si : Int32} {T Ti : ST} {D Di : LD} {P : Nat → ST × Int32} (h : HI G B tn f wb T sd D im Ti si Di nw rm P ru sp) {y : Nat → Nat} {n : Nat} (hR : ∃ s1, Rd G1 (B + 3) y n s1) (hI : IsG G1 (B + 23)) (e9 : ∀ q, q ≠ B + 3 → q ≠ B + 3 + 1 → (q < B + 23 ∨ B + 23 + 14 ≤ q) → G1.1 q = G.1 q) : HI G1 B tn f wb T sd D im Ti si Di nw rm P ru sp := by
  have e : ∀ q, B ≤ q → (q ≠ B + 3 ∧ q ≠ B + 3 + 1 ∧ (q < B + 23 ∨ B + 23 + 14 ≤ q)) → G1.1 q = G.1 q := fun q _ c => e9 q c.1 c.2.1 c.2.2
  obtain ⟨r1, -, -, r4, r5, r6, r7⟩ := id h.2.2.2.1
  obtain ⟨wn, dp, hw, r4⟩ := r4
  obtain ⟨l1, z1, w1, e1, r5⟩ := r5
  obtain ⟨f1, r6⟩ := r6
  obtain ⟨ww, r7⟩ := r7
  obtain ⟨s1, R1, R2, -⟩ := hR
  exact ⟨(e _ (by omega) (by omega)).trans h.1, h.2.1, h.2.2.1.mv (e _ (by omega) (by omega)), ⟨(e _ (by omega) (by omega)).trans r1, ⟨_, _, _, _, R1⟩, ⟨_, R2⟩, ⟨wn, dp, hw, (e _ (by omega) (by omega)).trans r4⟩, ⟨l1, z1, w1, e1, (e _ (by omega) (by omega)).trans r5⟩, ⟨f1, (e _ (by omega) (by omega)).trans r6⟩, ww, (e _ (by omega) (by omega)).trans r7⟩, h.2.2.2.2.1.mv (fun q a b => e q (by omega) (by omega)), hI, h.2.2.2.2.2.2.1.mv (fun q a b => e q (by omega) (by omega)), h.2.2.2.2.2.2.2.1.mv (fun q a b => e q (by omega) (by omega)), h.2.2.2.2.2.2.2.2.1.mv (e _ (by omega) (by omega)) (fun q a b => e q (by omega) (by omega)), h.2.2.2.2.2.2.2.2.2.mv (fun q a b => e q (by omega) (by omega))⟩
theorem HI.lawR {G G1 : AH} {B tn im nw rm ru sp : Nat} {f : Nat → Nat} {wb sd si : Int32} {T Ti : ST} {D Di : LD} {P : Nat → ST × Int32} (h : HI G B tn f wb T sd D im Ti si Di nw rm P ru sp) {y : Nat → Nat} {n : Nat} {u : US} (hX : Lx G1 (B + 5) sp y n u) (hF : FrV G G1 (B + 5) sp) : HI G1 B tn f wb T sd D im Ti si Di nw rm P ru sp := by
  have hls := h.ls
  have hrs := h.2.2.2.2.2.2.1.2.2.2
  have e : ∀ q, B ≤ q → ((q < B + 5 ∨ B + 5 + 4 ≤ q) ∧ (q < sp ∨ sp + 6 ≤ q)) → G1.1 q = G.1 q := fun q _ c => hF.2 q c.1 c.2
  obtain ⟨r1, r2, r3, -⟩ := id h.2.2.2.1
  obtain ⟨l1, z1, w1, e1, r2⟩ := r2
  obtain ⟨f1, r3⟩ := r3
  obtain ⟨x1, x2, ⟨x3, x4, -⟩, x5, x6, x7⟩ := id hX
  exact ⟨(e _ (by omega) (by omega)).trans h.1, h.2.1, h.2.2.1.mv (e _ (by omega) (by omega)), ⟨(e _ (by omega) (by omega)).trans r1, ⟨l1, z1, w1, e1, (e _ (by omega) (by omega)).trans r2⟩, ⟨f1, (e _ (by omega) (by omega)).trans r3⟩, ⟨_, _, x7, x1⟩, ⟨_, _, _, _, x3⟩, ⟨_, x4⟩, _, x2⟩, h.2.2.2.2.1.mv (fun q a b => e q (by omega) (by omega)), h.2.2.2.2.2.1.same (fun q a b => e q (by omega) (by omega)), ⟨h.2.2.2.2.2.2.1.1.same (fun q a b => e q (by omega) (by omega)), h.2.2.2.2.2.2.1.2.1, ⟨_, x5, x6⟩, hrs⟩, h.2.2.2.2.2.2.2.1.mv (fun q a b => e q (by omega) (by omega)), h.2.2.2.2.2.2.2.2.1.mv (e _ (by omega) (by omega)) (fun q a b => e q (by omega) (by omega)), h.2.2.2.2.2.2.2.2.2.mv (fun q a b => e q (by omega) (by omega))⟩
theorem HI.swap {G : AH} {B tn im nw rm ru sp : Nat} {f : Nat → Nat} {wb sd si : Int32} {T Ti : ST} {D Di : LD} {P : Nat → ST × Int32} (h : HI G B tn f wb T sd D im Ti si Di nw rm P ru sp) {D2 : LD} (hL : Lw G sp D2) (hD : WFD D2) {tn2 im2 nw2 rm2 : Nat} {wb2 : Int32} (hb : tn2 ≤ 400 ∧ im2 ≤ 1 ∧ nw2 < 12 ∧ rm2 ≤ 12) : HI (gs G B (hO B (tn2) (wb2) (sp) (ru) (im2) (nw2) (rm2))) B (tn2) f (wb2) T sd (D2) (im2) Ti si Di (nw2) (rm2) P (sp) (ru) := by
  have hls := h.ls
  have hrs := h.2.2.2.2.2.2.1.2.2.2
  have e : ∀ q, B + 1 ≤ q → q < B + 246 → (gs G B (hO B (tn2) (wb2) (sp) (ru) (im2) (nw2) (rm2))).1 q = G.1 q := fun q a b => gs_ne (by omega)
  have hru := h.2.2.2.2.2.2.1.1
  exact ⟨gs_at, hb, h.2.2.1.mv (e _ (by omega) (by omega)), h.2.2.2.1.mv (fun q a b => e q (by omega) (by omega)), h.2.2.2.2.1.mv (fun q a b => e q (by omega) (by omega)), h.2.2.2.2.2.1.same (fun q a b => e q (by omega) (by omega)), ⟨hL.same (fun q a b => e q (by omega) (by omega)), hD, ⟨toX D, hru.g.fr (fun q a b => e q (by omega) (by omega)), h.2.2.2.2.2.2.1.2.1.2.2.2.2.2.2⟩, by omega⟩, h.2.2.2.2.2.2.2.1.mv (fun q a b => e q (by omega) (by omega)), h.2.2.2.2.2.2.2.2.1.mv (e _ (by omega) (by omega)) (fun q a b => e q (by omega) (by omega)), h.2.2.2.2.2.2.2.2.2.mv (fun q a b => e q (by omega) (by omega))⟩
theorem c_faultH {E : EV} {G : AH} {B tn im nw rm ru sp : Nat} {f : Nat → Nat} {wb sd si : Int32} {T Ti : ST} {D Di : LD} {P : Nat → ST × Int32} (hH : HI G B tn f wb T sd D im Ti si Di nw rm P ru sp) : Cu E 1 kX7_fault [.ref B] G (.int wb) G := c_fault hH.1
def endK (tn : Nat) (x : Int32) : Nat := if ¬ x < nI 0 ∧ x ≤ nI tn then 1 else 0
theorem c_endH {E : EV} {G : AH} {B tn im nw rm ru sp : Nat} {f : Nat → Nat} {wb sd si : Int32} {T Ti : ST} {D Di : LD} {P : Nat → ST × Int32} {x : Int32} (hH : HI G B tn f wb T sd D im Ti si Di nw rm P ru sp)  : Ci E 1 kX7_end [.ref B, .int x] G (fun r G1 => r = nI (endK tn x) ∧ FH G G1 B ∧ (endK tn x = 1 → HI G1 B (ix x) f wb T sd D im Ti si Di nw rm P ru sp) ∧ (¬ endK tn x = 1 → HI G1 B tn f wb T sd D im Ti si Di nw rm P ru sp)) := by
  obtain ⟨hB, ⟨htn, him, hnw, hrm⟩, hT, hRd, ⟨hI, hBd⟩, hS, ⟨hL, hD, hSp, hrs⟩, ⟨hIi, hBi, hLi, hDi⟩, ⟨hPa, hPi⟩, ⟨⟨we, hwe⟩, hSm, hSv, ⟨od, hod⟩⟩⟩ := id hH; obtain ⟨⟨_, _, _, _, _, _, gS0⟩, _⟩ := id hS; have hI0 := hI.1; have hIi0 := hIi.1; have hSm0 := hSm.1; have hSv0 := hSv.1
  obtain ⟨i0, i1, i2, i3, i4, i5, i6, i7, i8, i9, i10, i11, i12, i13⟩ := id hI
  obtain ⟨b0, b1, b2_, b3, b4, b5, b6, b7, b8, b9, b10, b11, b12, b13, b14, b15, b16, b17, b18, b19⟩ := id hBd
  have hls := HI.ls hH
  have hla : ru + 6 ≤ B + 9 ∨ B + 9 + 14 ≤ ru := by omega
  have hlb : ru + 6 ≤ B + 23 ∨ B + 23 + 14 ≤ ru := by omega
  refine Ct.intro rfl (by decide) [.ref B, .int x] (by simp [Value.category]) (Nat.le_of_ble_eq_true rfl) rfl ?_
  refine w_iload_n dX7_end_0 rfl ?_
  refine w_ifN_lt (tgt := 12) dX7_end_1 (by decide) (fun c_1 => ?_) (fun c_1 => ?_)
  · skip
    refine w_iconst (v := nI 0) dX7_end_12 (by decide) ?_
    refine w_zret dX7_end_13 rfl rfl (Nat.le_of_ble_eq_true rfl) (Nat.le_of_ble_eq_true rfl) ?_
    first
      | (refine ⟨_, rfl, by rw [hk], FH.gs (Nat.le_refl _) (by omega), fun _ => by rw [ix_nI (by omega)]; exact hHj, fun h => absurd hk h⟩; done)
      | (have hk : endK tn x = 0 := if_neg (fun h => h.1 c_1)
         refine ⟨_, rfl, by rw [hk], FH.rf, fun h => absurd (hk.symm.trans h) (by decide), fun _ => hH⟩; done)
      | (have hk : endK tn x = 0 := if_neg (fun h => c_9 h.2)
         refine ⟨_, rfl, by rw [hk], FH.rf, fun h => absurd (hk.symm.trans h) (by decide), fun _ => hH⟩; done)
  · skip
    refine w_iload_n dX7_end_4 rfl ?_
    refine w_aload_n dX7_end_5 rfl ?_
    refine w_getf dX7_end_6 fl_X7_13 (by first | assumption | exact gs_at | (rw [gs_ne (by omega)]; (first | assumption | exact gs_at | (rw [gs_ne (by omega)]; (first | assumption | exact gs_at | (rw [gs_ne (by omega)]; (first | assumption | exact gs_at | (rw [gs_ne (by omega)]; (first | assumption | exact gs_at))))))))) rfl ?_
    refine w_icmp_le (tgt := 14) dX7_end_9 (by decide) (fun c_9 => ?_) (fun c_9 => ?_)
    · skip
      obtain ⟨j, hj8, hj9, e9⟩ := in_L (a := 0) (n := tn) (by omega) (by omega) ⟨c_1, c_9⟩
      subst e9
      have hk : endK tn (nI j) = 1 := if_pos ⟨c_1, c_9⟩
      have hHj := hH.obj (tn2 := j) (im2 := im) (nw2 := nw) (rm2 := rm) (wb2 := wb) (by omega)
      refine w_aload_n dX7_end_14 rfl ?_
      refine w_iload_n dX7_end_15 rfl ?_
      refine w_putf dX7_end_16 fl_X7_13 (by first | assumption | exact gs_at | (rw [gs_ne (by omega)]; (first | assumption | exact gs_at | (rw [gs_ne (by omega)]; (first | assumption | exact gs_at | (rw [gs_ne (by omega)]; (first | assumption | exact gs_at | (rw [gs_ne (by omega)]; (first | assumption | exact gs_at))))))))) (by simp) rfl rfl ?_
      refine w_iconst (v := nI 1) dX7_end_19 (by decide) ?_
      refine w_zret dX7_end_20 rfl rfl (Nat.le_of_ble_eq_true rfl) (Nat.le_of_ble_eq_true rfl) ?_
      first
        | (refine ⟨_, rfl, by rw [hk], FH.gs (Nat.le_refl _) (by omega), fun _ => by rw [ix_nI (by omega)]; exact hHj, fun h => absurd hk h⟩; done)
        | (have hk : endK tn x = 0 := if_neg (fun h => h.1 c_1)
           refine ⟨_, rfl, by rw [hk], FH.rf, fun h => absurd (hk.symm.trans h) (by decide), fun _ => hH⟩; done)
        | (have hk : endK tn x = 0 := if_neg (fun h => c_9 h.2)
           refine ⟨_, rfl, by rw [hk], FH.rf, fun h => absurd (hk.symm.trans h) (by decide), fun _ => hH⟩; done)
    · skip
      refine w_iconst (v := nI 0) dX7_end_12 (by decide) ?_
      refine w_zret dX7_end_13 rfl rfl (Nat.le_of_ble_eq_true rfl) (Nat.le_of_ble_eq_true rfl) ?_
      first
        | (refine ⟨_, rfl, by rw [hk], FH.gs (Nat.le_refl _) (by omega), fun _ => by rw [ix_nI (by omega)]; exact hHj, fun h => absurd hk h⟩; done)
        | (have hk : endK tn x = 0 := if_neg (fun h => h.1 c_1)
           refine ⟨_, rfl, by rw [hk], FH.rf, fun h => absurd (hk.symm.trans h) (by decide), fun _ => hH⟩; done)
        | (have hk : endK tn x = 0 := if_neg (fun h => c_9 h.2)
           refine ⟨_, rfl, by rw [hk], FH.rf, fun h => absurd (hk.symm.trans h) (by decide), fun _ => hH⟩; done)
def dedW (f : Nat → Nat) (tn : Nat) (T : ST) : Int32 := rdWrong f tn (rdText f tn T)
def dedT (f : Nat → Nat) (tn : Nat) (T : ST) : ST := tu (rdText f tn T).2 12 1 (T 12 1 + 1)
def dedK (f : Nat → Nat) (tn : Nat) (T : ST) : Nat := xk2 (dedW f tn T = -1) (T 12 1 < 12)
theorem rdText_t {y : Nat → Nat} {n : Nat} {T : ST} : (rdText y n T).2 12 1 = T 12 1 := by
  have hi : ∀ (U : ST) v h o r, itemT U v h o r 12 1 = U 12 1 := fun U v h o r => by
    unfold itemT tu; simp
  have hc : ∀ (U : ST) f N c x, f ≠ 12 → cellT U f N c x 12 1 = U 12 1 := fun U f N c x hf => cellT_12 U N c x hf 1
  have hl : ∀ (s : RS) (U : ST), (rdLine y n s U).2 12 1 = U 12 1 := by
    intro s U
    have hit : (rdItem y n s U).2 12 1 = U 12 1 := by
      unfold rdItem
      by_cases h : U 12 0 < 12
      · rw [if_neg (fun h9 => h9 h)]
        dsimp only
        generalize atB y n (sNum y n 0 2 (sNd y n [115, 105, 100, 101] (sNum y n 0 6 (sNd y n [104, 111, 109, 101] (sNum y n 1 100 (sNd y n [105, 116, 101, 109] s)))))).1 [105, 110] = q
        cases q
        · rw [if_neg (by decide)]; dsimp only; rw [hi]
        · rw [if_pos rfl]; dsimp only; rw [hi]
      · rw [if_pos h]
    unfold rdLine rdCell
    repeat' split
    all_goals first | exact hit | rfl | (dsimp only; rw [hi]; done) | (dsimp only; rw [hc _ _ _ _ _ (by decide)]; done)
  have hs : ∀ (i : Nat) (u : RS × ST), (rdStep y n i u).2 12 1 = u.2 12 1 := fun i u => by unfold rdStep; split; rfl; exact hl _ _
  have hg : ∀ (k i : Nat) (u : RS × ST), (rdGo y n k i u).2 12 1 = u.2 12 1 := by
    intro k
    induction k with
    | zero => intro i u; rfl
    | succ k ih =>
      intro i u
      rw [rdGo]
      split
      · split
        · rw [ih]; exact hs i u
        · exact hs i u
      · exact hs i u
  unfold rdText
  split
  · rfl
  · exact hg _ _ _
theorem c_deed {E : EV} {G : AH} {B tn im nw rm ru sp : Nat} {f : Nat → Nat} {wb sd si : Int32} {T Ti : ST} {D Di : LD} {P : Nat → ST × Int32} (hH : HI G B tn f wb T sd D im Ti si Di nw rm P ru sp) : Ct E 13 1 6 kX7_deed [.ref B] G (fun o G1 => XOut ["java/lang/IllegalArgumentException", "java/lang/UnsupportedOperationException"] (dedK f tn T) (nI (T 12 1 + 1)) o ∧ (dedK f tn T = 0 → HI G1 B (0) f (dedW f tn T) (dedT f tn T) sd D im Ti si Di nw (0) P ru sp) ∧ (¬ dedK f tn T = 0 → HI G1 B (0) f (dedW f tn T) T sd D im Ti si Di nw rm P ru sp) ∧ FH G G1 B) := by
  refine Ct.intro rfl (by decide) [.ref B] (by simp [Value.category]) (Nat.le_of_ble_eq_true rfl) rfl ?_
  obtain ⟨hB, ⟨htn, him, hnw, hrm⟩, hT, hRd, ⟨hI, hBd⟩, hS, ⟨hL, hD, hSp, hrs⟩, ⟨hIi, hBi, hLi, hDi⟩, ⟨hPa, hPi⟩, ⟨⟨we, hwe⟩, hSm, hSv, ⟨od, hod⟩⟩⟩ := id hH; obtain ⟨⟨_, _, _, _, _, _, gS0⟩, _⟩ := id hS; have hI0 := hI.1; have hIi0 := hIi.1; have hSm0 := hSm.1; have hSv0 := hSv.1
  obtain ⟨i0, i1, i2, i3, i4, i5, i6, i7, i8, i9, i10, i11, i12, i13⟩ := id hI
  obtain ⟨b0, b1, b2_, b3, b4, b5, b6, b7, b8, b9, b10, b11, b12, b13, b14, b15, b16, b17, b18, b19⟩ := id hBd
  have hls := HI.ls hH
  have hla : ru + 6 ≤ B + 9 ∨ B + 9 + 14 ≤ ru := by omega
  have hlb : ru + 6 ≤ B + 23 ∨ B + 23 + 14 ≤ ru := by omega
  have htx : T 12 1 ≤ 12 := b13
  refine w_aload_n dX7_deed_0 rfl ?_
  refine w_getf dX7_deed_1 fl_X7_41 (by first | assumption | exact gs_at | (rw [gs_ne (by omega)]; (first | assumption | exact gs_at | (rw [gs_ne (by omega)]; (first | assumption | exact gs_at | (rw [gs_ne (by omega)]; (first | assumption | exact gs_at | (rw [gs_ne (by omega)]; (first | assumption | exact gs_at))))))))) rfl ?_
  refine w_aload_n dX7_deed_4 rfl ?_
  refine w_getf dX7_deed_5 fl_X7_37 (by first | assumption | exact gs_at | (rw [gs_ne (by omega)]; (first | assumption | exact gs_at | (rw [gs_ne (by omega)]; (first | assumption | exact gs_at | (rw [gs_ne (by omega)]; (first | assumption | exact gs_at | (rw [gs_ne (by omega)]; (first | assumption | exact gs_at))))))))) rfl ?_
  have htn9 := htn
  refine wV1d dX7_deed_8 lk_X7_94 rfl (by first | assumption | exact gs_at | (rw [gs_ne (by omega)]; (first | assumption | exact gs_at | (rw [gs_ne (by omega)]; (first | assumption | exact gs_at | (rw [gs_ne (by omega)]; (first | assumption | exact gs_at | (rw [gs_ne (by omega)]; (first | assumption | exact gs_at))))))))) rfl rfl (c_copyIsl hS hI (by omega)) (Nat.le_of_ble_eq_true rfl) (Nat.le_of_ble_eq_true rfl) (Nat.le_of_ble_eq_true rfl) (Nat.le_of_ble_eq_true rfl) (fun G h_8 => ?_)
  obtain ⟨hJ1, hF1⟩ := h_8
  have hS9 := HSc.copy hH hJ1 hF1
  obtain ⟨hH, hJ, hBJ, hFH⟩ := id hS9; have hJ0 := hJ.1
  obtain ⟨hB, ⟨htn, him, hnw, hrm⟩, hT, hRd, ⟨hI, hBd⟩, hS, ⟨hL, hD, hSp, hrs⟩, ⟨hIi, hBi, hLi, hDi⟩, ⟨hPa, hPi⟩, ⟨⟨we, hwe⟩, hSm, hSv, ⟨od, hod⟩⟩⟩ := id hH; obtain ⟨⟨_, _, _, _, _, _, gS0⟩, _⟩ := id hS; have hI0 := hI.1; have hIi0 := hIi.1; have hSm0 := hSm.1; have hSv0 := hSv.1
  have hJ0 := hJ.1
  have hHu := hH.obj (tn2 := 0) (im2 := im) (nw2 := nw) (rm2 := rm) (wb2 := wb) (by omega)
  have hFu := hFH.tr (FH.gs (b := B) (x := hO B (0) wb ru sp im nw rm) (Nat.le_refl _) (by omega))
  refine w_aload_n dX7_deed_11 rfl ?_
  refine w_aload_n dX7_deed_12 rfl ?_
  refine w_getf dX7_deed_13 fl_X7_20 (by first | assumption | exact gs_at | (rw [gs_ne (by omega)]; (first | assumption | exact gs_at | (rw [gs_ne (by omega)]; (first | assumption | exact gs_at | (rw [gs_ne (by omega)]; (first | assumption | exact gs_at | (rw [gs_ne (by omega)]; (first | assumption | exact gs_at))))))))) rfl ?_
  refine w_aload_n dX7_deed_16 rfl ?_
  refine w_getf dX7_deed_17 fl_X7_9 (by first | assumption | exact gs_at | (rw [gs_ne (by omega)]; (first | assumption | exact gs_at | (rw [gs_ne (by omega)]; (first | assumption | exact gs_at | (rw [gs_ne (by omega)]; (first | assumption | exact gs_at | (rw [gs_ne (by omega)]; (first | assumption | exact gs_at))))))))) rfl ?_
  refine w_aload_n dX7_deed_20 rfl ?_
  refine wV0u dX7_deed_21 lk_X7_98 rfl (by first | assumption | exact gs_at | (rw [gs_ne (by omega)]; (first | assumption | exact gs_at | (rw [gs_ne (by omega)]; (first | assumption | exact gs_at | (rw [gs_ne (by omega)]; (first | assumption | exact gs_at | (rw [gs_ne (by omega)]; (first | assumption | exact gs_at))))))))) rfl rfl (c_usedTape hB) (Nat.le_of_ble_eq_true rfl) (Nat.le_of_ble_eq_true rfl) (Nat.le_of_ble_eq_true rfl) (Nat.le_of_ble_eq_true rfl) ?_
  have hJ : Isl (gs _ B (hO B (0) wb ru sp im nw rm)) (B + 23) _ _ := hJ.same (fun q a b => gs_ne (by omega))
  obtain ⟨hB, ⟨htn, him, hnw, hrm⟩, hT, hRd, ⟨hI, hBd⟩, hS, ⟨hL, hD, hSp, hrs⟩, ⟨hIi, hBi, hLi, hDi⟩, ⟨hPa, hPi⟩, ⟨⟨we, hwe⟩, hSm, hSv, ⟨od, hod⟩⟩⟩ := id hHu; obtain ⟨⟨_, _, _, _, _, _, gS0⟩, _⟩ := id hS; have hI0 := hI.1; have hIi0 := hIi.1; have hSm0 := hSm.1; have hSv0 := hSv.1
  obtain ⟨⟨d0, ⟨x0, x1, x2, x3, d1⟩, ⟨x4, d2⟩, -⟩⟩ := (⟨hRd⟩ : PLift (HRd (gs G B (hO B (0) wb ru sp im nw rm)) B))
  refine w_aload_n dX7_deed_24 rfl ?_
  refine w_getf dX7_deed_25 fl_X7_41 (by first | assumption | exact gs_at | (rw [gs_ne (by omega)]; (first | assumption | exact gs_at | (rw [gs_ne (by omega)]; (first | assumption | exact gs_at | (rw [gs_ne (by omega)]; (first | assumption | exact gs_at | (rw [gs_ne (by omega)]; (first | assumption | exact gs_at))))))))) rfl ?_
  refine wV3i dX7_deed_28 lk_X7_102 rfl (by first | assumption | exact gs_at | (rw [gs_ne (by omega)]; (first | assumption | exact gs_at | (rw [gs_ne (by omega)]; (first | assumption | exact gs_at | (rw [gs_ne (by omega)]; (first | assumption | exact gs_at | (rw [gs_ne (by omega)]; (first | assumption | exact gs_at))))))))) rfl rfl (c_deedText (r := B + 3) (a := B + 23) d0 (by omega) (by omega) (by omega) (by omega) d1 d2 hT.1 htn9 hT.2 hJ hBJ.1 (by omega) (by omega)) (Nat.le_of_ble_eq_true rfl) (Nat.le_of_ble_eq_true rfl) (Nat.le_of_ble_eq_true rfl) (Nat.le_of_ble_eq_true rfl) (fun r_28 G h_28 => ?_)
  obtain ⟨hv9, hR9, hJ9, hz9, hq9⟩ := h_28
  have hHr := hHu.deedR hR9 hJ9.g hq9
  have hFr := hFu.tr ⟨Nat.le_of_eq hz9.symm, fun q hq => hq9 q (by omega) (by omega) (by omega)⟩
  obtain ⟨hB, ⟨htn, him, hnw, hrm⟩, hT, hRd, ⟨hI, hBd⟩, hS, ⟨hL, hD, hSp, hrs⟩, ⟨hIi, hBi, hLi, hDi⟩, ⟨hPa, hPi⟩, ⟨⟨we, hwe⟩, hSm, hSv, ⟨od, hod⟩⟩⟩ := id hHr; obtain ⟨⟨_, _, _, _, _, _, gS0⟩, _⟩ := id hS; have hI0 := hI.1; have hIi0 := hIi.1; have hSm0 := hSm.1; have hSv0 := hSv.1
  have hHw := hHr.obj (tn2 := 0) (im2 := im) (nw2 := nw) (rm2 := rm) (wb2 := r_28) (by omega)
  have hFw := hFr.tr (FH.gs (b := B) (x := hO B (0) (r_28) ru sp im nw rm) (Nat.le_refl _) (by omega))
  refine w_putf dX7_deed_31 fl_X7_31 (by first | assumption | exact gs_at | (rw [gs_ne (by omega)]; (first | assumption | exact gs_at | (rw [gs_ne (by omega)]; (first | assumption | exact gs_at | (rw [gs_ne (by omega)]; (first | assumption | exact gs_at | (rw [gs_ne (by omega)]; (first | assumption | exact gs_at))))))))) (by simp) rfl rfl ?_
  refine w_aload_n dX7_deed_34 rfl ?_
  refine w_getf dX7_deed_35 fl_X7_31 (by first | assumption | exact gs_at | (rw [gs_ne (by omega)]; (first | assumption | exact gs_at | (rw [gs_ne (by omega)]; (first | assumption | exact gs_at | (rw [gs_ne (by omega)]; (first | assumption | exact gs_at | (rw [gs_ne (by omega)]; (first | assumption | exact gs_at))))))))) rfl ?_
  refine w_iconst (v := (-1)) dX7_deed_38 (by decide) ?_
  have hv10 : r_28 = dedW f tn T := hv9
  subst hv10
  refine w_icmp_eq (tgt := 52) dX7_deed_39 (by decide) (fun c_39 => ?_) (fun c_39 => ?_)
  · skip
    have e28 : dedW f tn T = -1 := c_39
    obtain ⟨hB, ⟨htn, him, hnw, hrm⟩, hT, hRd, ⟨hI, hBd⟩, hS, ⟨hL, hD, hSp, hrs⟩, ⟨hIi, hBi, hLi, hDi⟩, ⟨hPa, hPi⟩, ⟨⟨we, hwe⟩, hSm, hSv, ⟨od, hod⟩⟩⟩ := id hHw; obtain ⟨⟨_, _, _, _, _, _, gS0⟩, _⟩ := id hS; have hI0 := hI.1; have hIi0 := hIi.1; have hSm0 := hSm.1; have hSv0 := hSv.1
    have hJw : Isl (gs _ B (hO B (0) (dedW f tn T) ru sp im nw rm)) (B + 23) _ _ := hJ9.same (fun q a b => gs_ne (by omega))
    have hJw0 := hJw.1
    refine w_aload_n dX7_deed_52 rfl ?_
    refine w_getf dX7_deed_53 fl_X7_37 (by first | assumption | exact gs_at | (rw [gs_ne (by omega)]; (first | assumption | exact gs_at | (rw [gs_ne (by omega)]; (first | assumption | exact gs_at | (rw [gs_ne (by omega)]; (first | assumption | exact gs_at | (rw [gs_ne (by omega)]; (first | assumption | exact gs_at))))))))) rfl ?_
    refine w_getf dX7_deed_56 fl_X7_113 (by first | assumption | exact gs_at | (rw [gs_ne (by omega)]; (first | assumption | exact gs_at | (rw [gs_ne (by omega)]; (first | assumption | exact gs_at | (rw [gs_ne (by omega)]; (first | assumption | exact gs_at | (rw [gs_ne (by omega)]; (first | assumption | exact gs_at))))))))) rfl ?_
    refine w_bipush (v := nI 12) dX7_deed_59 (by decide) ?_
    refine w_icmp_lt (tgt := 74) dX7_deed_61 (by decide) (fun c_61 => ?_) (fun c_61 => ?_)
    · skip
      rw [nI_ltI (by omega) (by omega)] at c_61
      refine w_aload_n dX7_deed_74 rfl ?_
      refine w_getf dX7_deed_75 fl_X7_37 (by first | assumption | exact gs_at | (rw [gs_ne (by omega)]; (first | assumption | exact gs_at | (rw [gs_ne (by omega)]; (first | assumption | exact gs_at | (rw [gs_ne (by omega)]; (first | assumption | exact gs_at | (rw [gs_ne (by omega)]; (first | assumption | exact gs_at))))))))) rfl ?_
      refine w_aload_n dX7_deed_78 rfl ?_
      refine w_getf dX7_deed_79 fl_X7_41 (by first | assumption | exact gs_at | (rw [gs_ne (by omega)]; (first | assumption | exact gs_at | (rw [gs_ne (by omega)]; (first | assumption | exact gs_at | (rw [gs_ne (by omega)]; (first | assumption | exact gs_at | (rw [gs_ne (by omega)]; (first | assumption | exact gs_at))))))))) rfl ?_
      refine wV1d dX7_deed_82 lk_X7_94 rfl (by first | assumption | exact gs_at | (rw [gs_ne (by omega)]; (first | assumption | exact gs_at | (rw [gs_ne (by omega)]; (first | assumption | exact gs_at | (rw [gs_ne (by omega)]; (first | assumption | exact gs_at | (rw [gs_ne (by omega)]; (first | assumption | exact gs_at))))))))) rfl rfl (c_copyIsl hI.g hJw (by omega)) (Nat.le_of_ble_eq_true rfl) (Nat.le_of_ble_eq_true rfl) (Nat.le_of_ble_eq_true rfl) (Nat.le_of_ble_eq_true rfl) (fun G h_82 => ?_)
      obtain ⟨hI9, hF9⟩ := h_82
      have hBd9 := (rdText_ok htn9 hBJ).2 e28
      have hHx := hHw.now hI9 hBd9 hF9
      have hFx := hFw.tr (hF9.toH (by omega) (by omega))
      obtain ⟨hB, ⟨htn, him, hnw, hrm⟩, hT, hRd, ⟨hI, hBd⟩, hS, ⟨hL, hD, hSp, hrs⟩, ⟨hIi, hBi, hLi, hDi⟩, ⟨hPa, hPi⟩, ⟨⟨we, hwe⟩, hSm, hSv, ⟨od, hod⟩⟩⟩ := id hHx; obtain ⟨⟨_, _, _, _, _, _, gS0⟩, _⟩ := id hS; have hI0 := hI.1; have hIi0 := hIi.1; have hSm0 := hSm.1; have hSv0 := hSv.1
      have ht1 : (rdText f tn T).2 12 1 = T 12 1 := rdText_t
      refine w_aload_n dX7_deed_85 rfl ?_
      refine w_getf dX7_deed_86 fl_X7_37 (by first | assumption | exact gs_at | (rw [gs_ne (by omega)]; (first | assumption | exact gs_at | (rw [gs_ne (by omega)]; (first | assumption | exact gs_at | (rw [gs_ne (by omega)]; (first | assumption | exact gs_at | (rw [gs_ne (by omega)]; (first | assumption | exact gs_at))))))))) rfl ?_
      refine w_dup dX7_deed_89 rfl ?_
      refine w_getf dX7_deed_90 fl_X7_113 (by first | assumption | exact gs_at | (rw [gs_ne (by omega)]; (first | assumption | exact gs_at | (rw [gs_ne (by omega)]; (first | assumption | exact gs_at | (rw [gs_ne (by omega)]; (first | assumption | exact gs_at | (rw [gs_ne (by omega)]; (first | assumption | exact gs_at))))))))) rfl ?_
      refine w_iconst (v := nI 1) dX7_deed_93 (by decide) ?_
      first | refine w_iaddN dX7_deed_94 ?_ | refine w_iadd dX7_deed_94 ?_
      rw [ht1]
      refine w_pis13 (v := T 12 1 + 1) hI dX7_deed_95 fl_X7_113 (fun G9 hI10 hF10 => ?_)
      have hHy := hHx.now hI10 (hBd9.ps1 (by omega)) hF10
      have hFy := hFx.tr (hF10.toH (by omega) (by omega))
      obtain ⟨hB, ⟨htn, him, hnw, hrm⟩, hT, hRd, ⟨hI, hBd⟩, hS, ⟨hL, hD, hSp, hrs⟩, ⟨hIi, hBi, hLi, hDi⟩, ⟨hPa, hPi⟩, ⟨⟨we, hwe⟩, hSm, hSv, ⟨od, hod⟩⟩⟩ := id hHy; obtain ⟨⟨_, _, _, _, _, _, gS0⟩, _⟩ := id hS; have hI0 := hI.1; have hIi0 := hIi.1; have hSm0 := hSm.1; have hSv0 := hSv.1
      refine w_aload_n dX7_deed_98 rfl ?_
      refine w_iconst (v := nI 0) dX7_deed_99 (by decide) ?_
      refine w_putf dX7_deed_100 fl_X7_71 (by first | assumption | exact gs_at | (rw [gs_ne (by omega)]; (first | assumption | exact gs_at | (rw [gs_ne (by omega)]; (first | assumption | exact gs_at | (rw [gs_ne (by omega)]; (first | assumption | exact gs_at | (rw [gs_ne (by omega)]; (first | assumption | exact gs_at))))))))) (by simp) rfl rfl ?_
      refine w_aload_n dX7_deed_103 rfl ?_
      refine w_getf dX7_deed_104 fl_X7_37 (by first | assumption | exact gs_at | (rw [gs_ne (by omega)]; (first | assumption | exact gs_at | (rw [gs_ne (by omega)]; (first | assumption | exact gs_at | (rw [gs_ne (by omega)]; (first | assumption | exact gs_at | (rw [gs_ne (by omega)]; (first | assumption | exact gs_at))))))))) rfl ?_
      refine w_getf dX7_deed_107 fl_X7_113 (by first | assumption | exact gs_at | (rw [gs_ne (by omega)]; (first | assumption | exact gs_at | (rw [gs_ne (by omega)]; (first | assumption | exact gs_at | (rw [gs_ne (by omega)]; (first | assumption | exact gs_at | (rw [gs_ne (by omega)]; (first | assumption | exact gs_at))))))))) rfl ?_
      refine w_iret dX7_deed_110 rfl (Nat.le_of_ble_eq_true rfl) (Nat.le_of_ble_eq_true rfl) ?_
      refine ⟨XOut.ok (by rw [dedK, xk2, if_pos e28, if_pos c_61]) rfl, fun _ => hHy.obj (by omega), fun e => absurd (by rw [dedK, xk2, if_pos e28, if_pos c_61]) e, hFy.tr (FH.gs (Nat.le_refl _) (by omega))⟩
    · skip
      rw [nI_ltI (by omega) (by omega)] at c_61
      exact w_throw (i := 12) (names := ["java/lang/RuntimeException", "java/lang/Exception"]) rfl rfl (by decide +kernel) (by decide +kernel) u_814 u_20 at_uoe rfl dX7_deed_64 dX7_deed_67 dX7_deed_68 dX7_deed_70 dX7_deed_73 rfl (by decide) (by decide) (Nat.le_of_ble_eq_true rfl) (Nat.le_of_ble_eq_true rfl) (fun n9 h9 => ⟨XOut.no (j := 1) (by rw [dedK, xk2, if_pos e28, if_neg c_61]) rfl, fun e => absurd e (by rw [dedK, xk2, if_pos e28, if_neg c_61]; decide), fun _ => hHw.x, hFw.tr (FH.x h9)⟩)
  · skip
    exact w_throw (i := 11) (names := ["java/lang/RuntimeException", "java/lang/Exception"]) rfl rfl (by decide +kernel) (by decide +kernel) u_745 u_19 at_iae rfl dX7_deed_42 dX7_deed_45 dX7_deed_46 dX7_deed_48 dX7_deed_51 rfl (by decide) (by decide) (Nat.le_of_ble_eq_true rfl) (Nat.le_of_ble_eq_true rfl) (fun n9 h9 => ⟨XOut.no (j := 0) (by rw [dedK, xk2, if_neg c_39]) rfl, fun e => absurd e (by rw [dedK, xk2, if_neg c_39]; decide), fun _ => hHw.x, hFw.tr (FH.x h9)⟩)
