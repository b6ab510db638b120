/-! a law being read: its rows as they stand, and what joins while it waits -/
/-- lines, about, amount, begins, codes, used -/
abbrev LX : Type := Int32 × (Nat → Int32) × (Nat → Int32) × (Nat → Int32) × (Nat → Int32) × Nat
def Lg (G : AH) (l : Nat) (X : LX) : Prop := G.1 l = some (oB 2 [.ref (l + 1), .ref (l + 2), .ref (l + 3), .ref (l + 4), .int (nI X.2.2.2.2.2), .int X.1, .ref (l + 5)]) ∧ G.1 (l + 1) = some (aI 12 X.2.1) ∧ G.1 (l + 2) = some (aI 12 X.2.2.1) ∧ G.1 (l + 3) = some (aI 13 X.2.2.2.1) ∧ G.1 (l + 4) = some (aI 400 X.2.2.2.2.1) ∧ ∃ t : Nat → Int32, G.1 (l + 5) = some (aI 3 t)
def toX (D : LD) : LX := (D.1, fun i => nI (D.2.2.1 i), fun i => nI (D.2.2.2.1 i), fun i => nI (D.2.2.2.2.1 i), D.2.2.2.2.2.1, D.2.2.2.2.2.2)
theorem Lw.g {G : AH} {l : Nat} {D : LD} (h : Lw G l D) : Lg G l (toX D) := h
theorem Lg.w {G : AH} {l : Nat} {X : LX} (D : LD) (h : Lg G l X) (e : X = toX D) : Lw G l D := by subst e; exact h
def FrW (G G' : AH) (l : Nat) : Prop := G'.2 = G.2 ∧ ∀ q, (q < l ∨ l + 6 ≤ q) → G'.1 q = G.1 q
theorem FrW.tr {G G1 G2 : AH} {l : Nat} (h1 : FrW G G1 l) (h2 : FrW G1 G2 l) : FrW G G2 l := ⟨h2.1.trans h1.1, fun q hq => (h2.2 q hq).trans (h1.2 q hq)⟩
theorem FrW.rf {G : AH} {l : Nat} : FrW G G l := ⟨rfl, fun _ _ => rfl⟩
theorem FrW.gs {G : AH} {l q : Nat} {x : HC} (h1 : l ≤ q) (h2 : q < l + 6) : FrW G (gs G q x) l := ⟨rfl, fun p hp => gs_ne (by omega)⟩
theorem Lg.fr {G G1 : AH} {l : Nat} {X : LX} (h : Lg G l X) (e : ∀ q, l ≤ q → q < l + 6 → G1.1 q = G.1 q) : Lg G1 l X := by
  obtain ⟨a0, a1, a2, a3, a4, t, a5⟩ := h
  exact ⟨(e _ (by omega) (by omega)).trans a0, (e _ (by omega) (by omega)).trans a1, (e _ (by omega) (by omega)).trans a2, (e _ (by omega) (by omega)).trans a3, (e _ (by omega) (by omega)).trans a4, t, (e _ (by omega) (by omega)).trans a5⟩
def clrX (X : LX) : LX := (nI 0, X.2.1, X.2.2.1, X.2.2.2.1, X.2.2.2.2.1, 0)
def begX (X : LX) (k : Nat) (a m : Int32) : LX := (X.1, upd X.2.1 k a, upd X.2.2.1 k m, upd X.2.2.2.1 k (nI X.2.2.2.2.2), X.2.2.2.2.1, X.2.2.2.2.2)
def endX (X : LX) (k : Nat) : LX := (nI (k + 1), X.2.1, X.2.2.1, upd X.2.2.2.1 (k + 1) (nI X.2.2.2.2.2), X.2.2.2.2.1, X.2.2.2.2.2)
def emX (X : LX) (c : Int32) : LX := if X.2.2.2.2.2 < 400 then (X.1, X.2.1, X.2.2.1, X.2.2.2.1, upd X.2.2.2.2.1 X.2.2.2.2.2 c, X.2.2.2.2.2 + 1) else X
theorem emX_le {X : LX} {c : Int32} (h : X.2.2.2.2.2 ≤ 400) : (emX X c).2.2.2.2.2 ≤ 400 := by
  unfold emX
  split
  · show X.2.2.2.2.2 + 1 ≤ 400
    omega
  · exact h
theorem emX_1 (X : LX) (c : Int32) : (emX X c).1 = X.1 := by
  unfold emX
  split <;> rfl
theorem c_clear {E : EV} {l : Nat} {X : LX} {G : AH} (hL : Lg G l X) : Cd E 1 kX2_clear [.ref l] G (fun G1 => Lg G1 l (clrX X) ∧ FrW G G1 l) := by
  obtain ⟨l0, l1, l2, l3, l4, t0, l5⟩ := id hL
  refine Ct.intro rfl (by decide) [.ref l] (by simp [Value.category]) (Nat.le_of_ble_eq_true rfl) rfl ?_
  refine w_aload_n dX2_clear_0 rfl ?_
  refine w_iconst (v := nI 0) dX2_clear_1 (by decide) ?_
  refine w_putf dX2_clear_2 fl_X2_24 (by first | assumption | exact gs_at | (rw [gs_ne (by omega)]; (first | assumption | exact gs_at | (rw [gs_ne (by omega)]; (first | assumption | exact gs_at | (rw [gs_ne (by omega)]; (first | assumption | exact gs_at | (rw [gs_ne (by omega)]; (first | assumption | exact gs_at))))))))) (by simp) rfl rfl ?_
  refine w_aload_n dX2_clear_5 rfl ?_
  refine w_iconst (v := nI 0) dX2_clear_6 (by decide) ?_
  refine w_putf dX2_clear_7 fl_X2_28 (by first | assumption | exact gs_at | (rw [gs_ne (by omega)]; (first | assumption | exact gs_at | (rw [gs_ne (by omega)]; (first | assumption | exact gs_at | (rw [gs_ne (by omega)]; (first | assumption | exact gs_at | (rw [gs_ne (by omega)]; (first | assumption | exact gs_at))))))))) (by simp) rfl rfl ?_
  refine w_vret dX2_clear_10 rfl (Nat.le_of_ble_eq_true rfl) (Nat.le_of_ble_eq_true rfl) ?_
  refine ⟨rfl, ⟨?_, ?_, ?_, ?_, ?_, t0, ?_⟩, FrW.tr (FrW.gs (by omega) (by omega)) (FrW.gs (by omega) (by omega))⟩
  all_goals (first | exact gs_at | assumption | (refine (gs_ne (by omega)).trans ?_; first | exact gs_at | assumption | (refine (gs_ne (by omega)).trans ?_; first | exact gs_at | assumption | (refine (gs_ne (by omega)).trans ?_; first | exact gs_at | assumption))))
theorem c_beginLine {E : EV} {l : Nat} {X : LX} {G : AH} {k : Nat} {a m : Int32} (hL : Lg G l X) (hk : X.1 = nI k) (h12 : k < 12) : Cd E 2 kX2_beginLine [.ref l, .int a, .int m] G (fun G1 => Lg G1 l (begX X k a m) ∧ FrW G G1 l) := by
  obtain ⟨l0, l1, l2, l3, l4, t0, l5⟩ := id hL
  rw [hk] at l0
  refine Ct.intro rfl (by decide) [.ref l, .int a, .int m] (by simp [Value.category]) (Nat.le_of_ble_eq_true rfl) rfl ?_
  refine w_aload_n dX2_beginLine_0 rfl ?_
  refine w_getf dX2_beginLine_1 fl_X2_9 (by first | assumption | exact gs_at | (rw [gs_ne (by omega)]; (first | assumption | exact gs_at | (rw [gs_ne (by omega)]; (first | assumption | exact gs_at | (rw [gs_ne (by omega)]; (first | assumption | exact gs_at | (rw [gs_ne (by omega)]; (first | assumption | exact gs_at))))))))) rfl ?_
  refine w_aload_n dX2_beginLine_4 rfl ?_
  refine w_getf dX2_beginLine_5 fl_X2_28 (by first | assumption | exact gs_at | (rw [gs_ne (by omega)]; (first | assumption | exact gs_at | (rw [gs_ne (by omega)]; (first | assumption | exact gs_at | (rw [gs_ne (by omega)]; (first | assumption | exact gs_at | (rw [gs_ne (by omega)]; (first | assumption | exact gs_at))))))))) rfl ?_
  refine w_iload_n dX2_beginLine_8 rfl ?_
  refine wN3n dX2_beginLine_9 lk_X2_38 rfl (c_putN (by first | assumption | exact gs_at | (rw [gs_ne (by omega)]; (first | assumption | exact gs_at | (rw [gs_ne (by omega)]; (first | assumption | exact gs_at | (rw [gs_ne (by omega)]; (first | assumption | exact gs_at | (rw [gs_ne (by omega)]; (first | assumption | exact gs_at))))))))) h12 (by decide)) (Nat.le_of_ble_eq_true rfl) (Nat.le_of_ble_eq_true rfl) (Nat.le_of_ble_eq_true rfl) (Nat.le_of_ble_eq_true rfl) ?_
  refine w_aload_n dX2_beginLine_12 rfl ?_
  refine w_getf dX2_beginLine_13 fl_X2_15 (by first | assumption | exact gs_at | (rw [gs_ne (by omega)]; (first | assumption | exact gs_at | (rw [gs_ne (by omega)]; (first | assumption | exact gs_at | (rw [gs_ne (by omega)]; (first | assumption | exact gs_at | (rw [gs_ne (by omega)]; (first | assumption | exact gs_at))))))))) rfl ?_
  refine w_aload_n dX2_beginLine_16 rfl ?_
  refine w_getf dX2_beginLine_17 fl_X2_28 (by first | assumption | exact gs_at | (rw [gs_ne (by omega)]; (first | assumption | exact gs_at | (rw [gs_ne (by omega)]; (first | assumption | exact gs_at | (rw [gs_ne (by omega)]; (first | assumption | exact gs_at | (rw [gs_ne (by omega)]; (first | assumption | exact gs_at))))))))) rfl ?_
  refine w_iload_n dX2_beginLine_20 rfl ?_
  refine wN3n dX2_beginLine_21 lk_X2_38 rfl (c_putN (by first | assumption | exact gs_at | (rw [gs_ne (by omega)]; (first | assumption | exact gs_at | (rw [gs_ne (by omega)]; (first | assumption | exact gs_at | (rw [gs_ne (by omega)]; (first | assumption | exact gs_at | (rw [gs_ne (by omega)]; (first | assumption | exact gs_at))))))))) h12 (by decide)) (Nat.le_of_ble_eq_true rfl) (Nat.le_of_ble_eq_true rfl) (Nat.le_of_ble_eq_true rfl) (Nat.le_of_ble_eq_true rfl) ?_
  refine w_aload_n dX2_beginLine_24 rfl ?_
  refine w_getf dX2_beginLine_25 fl_X2_18 (by first | assumption | exact gs_at | (rw [gs_ne (by omega)]; (first | assumption | exact gs_at | (rw [gs_ne (by omega)]; (first | assumption | exact gs_at | (rw [gs_ne (by omega)]; (first | assumption | exact gs_at | (rw [gs_ne (by omega)]; (first | assumption | exact gs_at))))))))) rfl ?_
  refine w_aload_n dX2_beginLine_28 rfl ?_
  refine w_getf dX2_beginLine_29 fl_X2_28 (by first | assumption | exact gs_at | (rw [gs_ne (by omega)]; (first | assumption | exact gs_at | (rw [gs_ne (by omega)]; (first | assumption | exact gs_at | (rw [gs_ne (by omega)]; (first | assumption | exact gs_at | (rw [gs_ne (by omega)]; (first | assumption | exact gs_at))))))))) rfl ?_
  refine w_aload_n dX2_beginLine_32 rfl ?_
  refine w_getf dX2_beginLine_33 fl_X2_24 (by first | assumption | exact gs_at | (rw [gs_ne (by omega)]; (first | assumption | exact gs_at | (rw [gs_ne (by omega)]; (first | assumption | exact gs_at | (rw [gs_ne (by omega)]; (first | assumption | exact gs_at | (rw [gs_ne (by omega)]; (first | assumption | exact gs_at))))))))) rfl ?_
  refine wN3n dX2_beginLine_36 lk_X2_38 rfl (c_putN (by first | assumption | exact gs_at | (rw [gs_ne (by omega)]; (first | assumption | exact gs_at | (rw [gs_ne (by omega)]; (first | assumption | exact gs_at | (rw [gs_ne (by omega)]; (first | assumption | exact gs_at | (rw [gs_ne (by omega)]; (first | assumption | exact gs_at))))))))) (by omega) (by decide)) (Nat.le_of_ble_eq_true rfl) (Nat.le_of_ble_eq_true rfl) (Nat.le_of_ble_eq_true rfl) (Nat.le_of_ble_eq_true rfl) ?_
  refine w_vret dX2_beginLine_39 rfl (Nat.le_of_ble_eq_true rfl) (Nat.le_of_ble_eq_true rfl) ?_
  rw [← hk] at l0
  refine ⟨rfl, ⟨?_, ?_, ?_, ?_, ?_, t0, ?_⟩, FrW.tr (FrW.tr (FrW.gs (by omega) (by omega)) (FrW.gs (by omega) (by omega))) (FrW.gs (by omega) (by omega))⟩
  all_goals (first | exact gs_at | assumption | (refine (gs_ne (by omega)).trans ?_; first | exact gs_at | assumption | (refine (gs_ne (by omega)).trans ?_; first | exact gs_at | assumption | (refine (gs_ne (by omega)).trans ?_; first | exact gs_at | assumption))))
theorem c_endLine {E : EV} {l : Nat} {X : LX} {G : AH} {k : Nat} (hL : Lg G l X) (hk : X.1 = nI k) (h12 : k < 12) : Cd E 2 kX2_endLine [.ref l] G (fun G1 => Lg G1 l (endX X k) ∧ FrW G G1 l) := by
  obtain ⟨l0, l1, l2, l3, l4, t0, l5⟩ := id hL
  rw [hk] at l0
  refine Ct.intro rfl (by decide) [.ref l] (by simp [Value.category]) (Nat.le_of_ble_eq_true rfl) rfl ?_
  refine w_aload_n dX2_endLine_0 rfl ?_
  refine w_dup dX2_endLine_1 rfl ?_
  refine w_getf dX2_endLine_2 fl_X2_28 (by first | assumption | exact gs_at | (rw [gs_ne (by omega)]; (first | assumption | exact gs_at | (rw [gs_ne (by omega)]; (first | assumption | exact gs_at | (rw [gs_ne (by omega)]; (first | assumption | exact gs_at | (rw [gs_ne (by omega)]; (first | assumption | exact gs_at))))))))) rfl ?_
  refine w_iconst (v := nI 1) dX2_endLine_5 (by decide) ?_
  first | refine w_iaddN dX2_endLine_6 ?_ | refine w_iadd dX2_endLine_6 ?_
  refine w_putf dX2_endLine_7 fl_X2_28 (by first | assumption | exact gs_at | (rw [gs_ne (by omega)]; (first | assumption | exact gs_at | (rw [gs_ne (by omega)]; (first | assumption | exact gs_at | (rw [gs_ne (by omega)]; (first | assumption | exact gs_at | (rw [gs_ne (by omega)]; (first | assumption | exact gs_at))))))))) (by simp) rfl rfl ?_
  refine w_aload_n dX2_endLine_10 rfl ?_
  refine w_getf dX2_endLine_11 fl_X2_18 (by first | assumption | exact gs_at | (rw [gs_ne (by omega)]; (first | assumption | exact gs_at | (rw [gs_ne (by omega)]; (first | assumption | exact gs_at | (rw [gs_ne (by omega)]; (first | assumption | exact gs_at | (rw [gs_ne (by omega)]; (first | assumption | exact gs_at))))))))) rfl ?_
  refine w_aload_n dX2_endLine_14 rfl ?_
  refine w_getf dX2_endLine_15 fl_X2_28 (by first | assumption | exact gs_at | (rw [gs_ne (by omega)]; (first | assumption | exact gs_at | (rw [gs_ne (by omega)]; (first | assumption | exact gs_at | (rw [gs_ne (by omega)]; (first | assumption | exact gs_at | (rw [gs_ne (by omega)]; (first | assumption | exact gs_at))))))))) rfl ?_
  refine w_aload_n dX2_endLine_18 rfl ?_
  refine w_getf dX2_endLine_19 fl_X2_24 (by first | assumption | exact gs_at | (rw [gs_ne (by omega)]; (first | assumption | exact gs_at | (rw [gs_ne (by omega)]; (first | assumption | exact gs_at | (rw [gs_ne (by omega)]; (first | assumption | exact gs_at | (rw [gs_ne (by omega)]; (first | assumption | exact gs_at))))))))) rfl ?_
  refine wN3n dX2_endLine_22 lk_X2_38 rfl (c_putN (by first | assumption | exact gs_at | (rw [gs_ne (by omega)]; (first | assumption | exact gs_at | (rw [gs_ne (by omega)]; (first | assumption | exact gs_at | (rw [gs_ne (by omega)]; (first | assumption | exact gs_at | (rw [gs_ne (by omega)]; (first | assumption | exact gs_at))))))))) (by omega) (by decide)) (Nat.le_of_ble_eq_true rfl) (Nat.le_of_ble_eq_true rfl) (Nat.le_of_ble_eq_true rfl) (Nat.le_of_ble_eq_true rfl) ?_
  refine w_vret dX2_endLine_25 rfl (Nat.le_of_ble_eq_true rfl) (Nat.le_of_ble_eq_true rfl) ?_
  refine ⟨rfl, ⟨?_, ?_, ?_, ?_, ?_, t0, ?_⟩, FrW.tr (FrW.gs (by omega) (by omega)) (FrW.gs (by omega) (by omega))⟩
  all_goals (first | exact gs_at | assumption | (refine (gs_ne (by omega)).trans ?_; first | exact gs_at | assumption | (refine (gs_ne (by omega)).trans ?_; first | exact gs_at | assumption | (refine (gs_ne (by omega)).trans ?_; first | exact gs_at | assumption))))
theorem c_emit {E : EV} {l : Nat} {X : LX} {G : AH} {c : Int32} (hL : Lg G l X) (hu : X.2.2.2.2.2 ≤ 400) : Cd E 1 kX2_emit [.ref l, .int c] G (fun G1 => Lg G1 l (emX X c) ∧ FrW G G1 l) := by
  obtain ⟨l0, l1, l2, l3, l4, t0, l5⟩ := id hL
  refine Ct.intro rfl (by decide) [.ref l, .int c] (by simp [Value.category]) (Nat.le_of_ble_eq_true rfl) rfl ?_
  refine w_aload_n dX2_emit_0 rfl ?_
  refine w_getf dX2_emit_1 fl_X2_24 (by first | assumption | exact gs_at | (rw [gs_ne (by omega)]; (first | assumption | exact gs_at | (rw [gs_ne (by omega)]; (first | assumption | exact gs_at | (rw [gs_ne (by omega)]; (first | assumption | exact gs_at | (rw [gs_ne (by omega)]; (first | assumption | exact gs_at))))))))) rfl ?_
  refine w_ifN_lt (tgt := 39) dX2_emit_4 (by decide) (fun c_4 => ?_) (fun c_4 => ?_)
  · try simp (disch := omega) only [nI_b2, Decidable.not_not, nI_ltI, nI_leI, nI_eq, ge_iff_le, gt_iff_lt, ne_eq, Nat.not_lt, Nat.not_le] at c_4
    exact absurd c_4 (by omega)
  · try simp (disch := omega) only [nI_b2, Decidable.not_not, nI_ltI, nI_leI, nI_eq, ge_iff_le, gt_iff_lt, ne_eq, Nat.not_lt, Nat.not_le] at c_4
    refine w_aload_n dX2_emit_7 rfl ?_
    refine w_getf dX2_emit_8 fl_X2_24 (by first | assumption | exact gs_at | (rw [gs_ne (by omega)]; (first | assumption | exact gs_at | (rw [gs_ne (by omega)]; (first | assumption | exact gs_at | (rw [gs_ne (by omega)]; (first | assumption | exact gs_at | (rw [gs_ne (by omega)]; (first | assumption | exact gs_at))))))))) rfl ?_
    refine w_aload_n dX2_emit_11 rfl ?_
    refine w_getf dX2_emit_12 fl_X2_21 (by first | assumption | exact gs_at | (rw [gs_ne (by omega)]; (first | assumption | exact gs_at | (rw [gs_ne (by omega)]; (first | assumption | exact gs_at | (rw [gs_ne (by omega)]; (first | assumption | exact gs_at | (rw [gs_ne (by omega)]; (first | assumption | exact gs_at))))))))) rfl ?_
    refine w_alenI dX2_emit_15 (by first | assumption | exact gs_at | (rw [gs_ne (by omega)]; (first | assumption | exact gs_at | (rw [gs_ne (by omega)]; (first | assumption | exact gs_at | (rw [gs_ne (by omega)]; (first | assumption | exact gs_at | (rw [gs_ne (by omega)]; (first | assumption | exact gs_at))))))))) ?_
    refine w_icmp_ge (tgt := 39) dX2_emit_16 (by decide) (fun c_16 => ?_) (fun c_16 => ?_)
    · try simp (disch := omega) only [nI_b2, Decidable.not_not, nI_ltI, nI_leI, nI_eq, ge_iff_le, gt_iff_lt, ne_eq, Nat.not_lt, Nat.not_le] at c_16
      refine w_vret dX2_emit_39 rfl (Nat.le_of_ble_eq_true rfl) (Nat.le_of_ble_eq_true rfl) ?_
      first
        | exact ⟨rfl, by rw [emX, if_neg (by omega)]; exact hL, FrW.rf⟩
        | (rw [emX, if_pos (by omega)]; refine ⟨rfl, ⟨?_, ?_, ?_, ?_, ?_, t0, ?_⟩, FrW.tr (FrW.gs (by omega) (by omega)) (FrW.gs (by omega) (by omega))⟩; all_goals (first | exact gs_at | assumption | (refine (gs_ne (by omega)).trans ?_; first | exact gs_at | assumption | (refine (gs_ne (by omega)).trans ?_; first | exact gs_at | assumption | (refine (gs_ne (by omega)).trans ?_; first | exact gs_at | assumption)))))
    · try simp (disch := omega) only [nI_b2, Decidable.not_not, nI_ltI, nI_leI, nI_eq, ge_iff_le, gt_iff_lt, ne_eq, Nat.not_lt, Nat.not_le] at c_16
      refine w_aload_n dX2_emit_19 rfl ?_
      refine w_getf dX2_emit_20 fl_X2_21 (by first | assumption | exact gs_at | (rw [gs_ne (by omega)]; (first | assumption | exact gs_at | (rw [gs_ne (by omega)]; (first | assumption | exact gs_at | (rw [gs_ne (by omega)]; (first | assumption | exact gs_at | (rw [gs_ne (by omega)]; (first | assumption | exact gs_at))))))))) rfl ?_
      refine w_aload_n dX2_emit_23 rfl ?_
      refine w_getf dX2_emit_24 fl_X2_24 (by first | assumption | exact gs_at | (rw [gs_ne (by omega)]; (first | assumption | exact gs_at | (rw [gs_ne (by omega)]; (first | assumption | exact gs_at | (rw [gs_ne (by omega)]; (first | assumption | exact gs_at | (rw [gs_ne (by omega)]; (first | assumption | exact gs_at))))))))) rfl ?_
      refine w_iload_n dX2_emit_27 rfl ?_
      refine w_iastore dX2_emit_28 (by first | assumption | exact gs_at | (rw [gs_ne (by omega)]; (first | assumption | exact gs_at | (rw [gs_ne (by omega)]; (first | assumption | exact gs_at | (rw [gs_ne (by omega)]; (first | assumption | exact gs_at | (rw [gs_ne (by omega)]; (first | assumption | exact gs_at))))))))) (vp_in_nI (by omega) (by decide)) ?_
      rw [nI_clamp (show X.2.2.2.2.2 < 2 ^ 31 by omega)]
      refine w_aload_n dX2_emit_29 rfl ?_
      refine w_dup dX2_emit_30 rfl ?_
      refine w_getf dX2_emit_31 fl_X2_24 (by first | assumption | exact gs_at | (rw [gs_ne (by omega)]; (first | assumption | exact gs_at | (rw [gs_ne (by omega)]; (first | assumption | exact gs_at | (rw [gs_ne (by omega)]; (first | assumption | exact gs_at | (rw [gs_ne (by omega)]; (first | assumption | exact gs_at))))))))) rfl ?_
      refine w_iconst (v := nI 1) dX2_emit_34 (by decide) ?_
      first | refine w_iaddN dX2_emit_35 ?_ | refine w_iadd dX2_emit_35 ?_
      refine w_putf dX2_emit_36 fl_X2_24 (by first | assumption | exact gs_at | (rw [gs_ne (by omega)]; (first | assumption | exact gs_at | (rw [gs_ne (by omega)]; (first | assumption | exact gs_at | (rw [gs_ne (by omega)]; (first | assumption | exact gs_at | (rw [gs_ne (by omega)]; (first | assumption | exact gs_at))))))))) (by simp) rfl rfl ?_
      refine w_vret dX2_emit_39 rfl (Nat.le_of_ble_eq_true rfl) (Nat.le_of_ble_eq_true rfl) ?_
      first
        | exact ⟨rfl, by rw [emX, if_neg (by omega)]; exact hL, FrW.rf⟩
        | (rw [emX, if_pos (by omega)]; refine ⟨rfl, ⟨?_, ?_, ?_, ?_, ?_, t0, ?_⟩, FrW.tr (FrW.gs (by omega) (by omega)) (FrW.gs (by omega) (by omega))⟩; all_goals (first | exact gs_at | assumption | (refine (gs_ne (by omega)).trans ?_; first | exact gs_at | assumption | (refine (gs_ne (by omega)).trans ?_; first | exact gs_at | assumption | (refine (gs_ne (by omega)).trans ?_; first | exact gs_at | assumption)))))
/-- the text, the law, what waits, how many wait, how deep -/
abbrev US : Type := RS × LX × (Nat → Int32) × Nat × Int32
def Lx (G : AH) (v l : Nat) (y : Nat → Nat) (n : Nat) (u : US) : Prop := G.1 v = some (oB 3 [.ref (v + 1), .ref (v + 3), .int (nI u.2.2.2.1), .int u.2.2.2.2]) ∧ G.1 (v + 3) = some (aI 32 u.2.2.1) ∧ Rd G (v + 1) y n u.1 ∧ Lg G l u.2.1 ∧ u.2.1.2.2.2.2.2 ≤ 400 ∧ u.2.2.2.1 < 2 ^ 20
def FrV (G G' : AH) (v l : Nat) : Prop := G'.2 = G.2 ∧ ∀ q, (q < v ∨ v + 4 ≤ q) → (q < l ∨ l + 6 ≤ q) → G'.1 q = G.1 q
theorem FrV.rf {G : AH} {v l : Nat} : FrV G G v l := ⟨rfl, fun _ _ _ => rfl⟩
theorem FrV.tr {G G1 G2 : AH} {v l : Nat} (h1 : FrV G G1 v l) (h2 : FrV G1 G2 v l) : FrV G G2 v l := ⟨h2.1.trans h1.1, fun q hq h => (h2.2 q hq h).trans (h1.2 q hq h)⟩
theorem FrV.gs {G : AH} {v l q : Nat} {x : HC} (h1 : v ≤ q) (h2 : q < v + 4) : FrV G (gs G q x) v l := ⟨rfl, fun p hp _ => gs_ne (by omega)⟩
theorem FrW.toV {G G' : AH} {v l : Nat} (h : FrW G G' l) : FrV G G' v l := ⟨h.1, fun q _ hq => h.2 q hq⟩
theorem FrR.toV {G G' : AH} {v l : Nat} (h : FrR G G' (v + 1)) : FrV G G' v l := ⟨h.1, fun q hq _ => h.2 q (by omega)⟩
theorem Lx.lg {G G1 : AH} {v l n : Nat} {y : Nat → Nat} {u : US} {X : LX} (h : Lx G v l y n u) (hX : Lg G1 l X) (hF : FrW G G1 l) (hd : l + 6 ≤ v ∨ v + 4 ≤ l) (hu : X.2.2.2.2.2 ≤ 400) : Lx G1 v l y n (u.1, X, u.2.2) := by
  obtain ⟨a0, a1, a2, a3, a4, a5⟩ := h
  exact ⟨(hF.2 _ (by omega)).trans a0, (hF.2 _ (by omega)).trans a1, ⟨(hF.2 _ (by omega)).trans a2.1, (hF.2 _ (by omega)).trans a2.2.1, a2.2.2⟩, hX, hu, a5⟩
theorem Lx.rd {G G1 : AH} {v l n : Nat} {y : Nat → Nat} {u : US} {s : RS} (h : Lx G v l y n u) (hX : Rd G1 (v + 1) y n s) (hF : FrR G G1 (v + 1)) (hd : l + 6 ≤ v ∨ v + 4 ≤ l) : Lx G1 v l y n (s, u.2) := by
  obtain ⟨a0, a1, a2, a3, a4, a5⟩ := h
  exact ⟨(hF.2 _ (by omega)).trans a0, (hF.2 _ (by omega)).trans a1, hX, a3.fr (fun q h1 h2 => hF.2 q (by omega)), a4, a5⟩
theorem Lx.ob {G : AH} {v l n : Nat} {y : Nat → Nat} {u : US} {k : Nat} {e : Int32} (h : Lx G v l y n u) (hd : l + 6 ≤ v ∨ v + 4 ≤ l) (hk : k < 2 ^ 20) : Lx (gs G v (oB 3 [.ref (v + 1), .ref (v + 3), .int (nI k), .int e])) v l y n (u.1, u.2.1, u.2.2.1, k, e) := by
  obtain ⟨a0, a1, a2, a3, a4, a5⟩ := h
  exact ⟨gs_at, (gs_ne (by omega)).trans a1, ⟨(gs_ne (by omega)).trans a2.1, (gs_ne (by omega)).trans a2.2.1, a2.2.2⟩, a3.fr (fun q h1 h2 => gs_ne (by omega)), a4, hk⟩
theorem Lx.wt {G : AH} {v l n : Nat} {y : Nat → Nat} {u : US} {w : Nat → Int32} (h : Lx G v l y n u) (hd : l + 6 ≤ v ∨ v + 4 ≤ l) : Lx (gs G (v + 3) (aI 32 w)) v l y n (u.1, u.2.1, w, u.2.2.2) := by
  obtain ⟨a0, a1, a2, a3, a4, a5⟩ := h
  exact ⟨(gs_ne (by omega)).trans a0, gs_at, ⟨(gs_ne (by omega)).trans a2.1, (gs_ne (by omega)).trans a2.2.1, a2.2.2⟩, a3.fr (fun q h1 h2 => gs_ne (by omega)), a4, a5⟩
def uHold (c : Int32) (u : US) : US := (u.1, u.2.1, puV 32 u.2.2.1 (nI u.2.2.2.1) c, u.2.2.2.1 + 1, u.2.2.2.2)
def rel (w : Nat → Int32) (lo : Int32) : Nat → LX → Int32 → LX × Nat × Int32
  | 0, X, d => (X, 0, d)
  | k + 1, X, d => if atV 32 w (nI k) < lo then (X, k + 1, d) else rel w lo k (emX X (atV 32 w (nI k))) (if atV 32 w (nI k) = -13 then d - nI 1 else d)
def uRel (lo : Int32) (u : US) : US := (u.1, (rel u.2.2.1 lo u.2.2.2.1 u.2.1 u.2.2.2.2).1, u.2.2.1, (rel u.2.2.1 lo u.2.2.2.1 u.2.1 u.2.2.2.2).2)
theorem rel_le (w : Nat → Int32) (lo : Int32) : ∀ (k : Nat) (X : LX) (d : Int32), (rel w lo k X d).2.1 ≤ k
  | 0, X, d => Nat.le_refl _
  | k + 1, X, d => by
    rw [rel]
    split
    · exact Nat.le_refl _
    · exact Nat.le_trans (rel_le w lo k _ _) (by omega)
theorem c_hold {E : EV} {v l n : Nat} {y : Nat → Nat} {u : US} {G : AH} {c : Int32} (hX : Lx G v l y n u) (hd : l + 6 ≤ v ∨ v + 4 ≤ l) (hw2 : u.2.2.2.1 + 1 < 2 ^ 20) : Cd E 2 kX3_hold [.ref v, .int c] G (fun G1 => Lx G1 v l y n (uHold c u) ∧ FrV G G1 v l) := by
  obtain ⟨v0, v3, hR, hL, hu, hw⟩ := id hX
  obtain ⟨r0, r1, -⟩ := id hR
  obtain ⟨l0, -⟩ := id hL
  refine Ct.intro rfl (by decide) [.ref v, .int c] (by simp [Value.category]) (Nat.le_of_ble_eq_true rfl) rfl ?_
  refine w_aload_n dX3_hold_0 rfl ?_
  refine w_getf dX3_hold_1 fl_X3_18 (by first | assumption | exact gs_at | (rw [gs_ne (by omega)]; (first | assumption | exact gs_at | (rw [gs_ne (by omega)]; (first | assumption | exact gs_at | (rw [gs_ne (by omega)]; (first | assumption | exact gs_at | (rw [gs_ne (by omega)]; (first | assumption | exact gs_at))))))))) rfl ?_
  refine w_aload_n dX3_hold_4 rfl ?_
  refine w_getf dX3_hold_5 fl_X3_22 (by first | assumption | exact gs_at | (rw [gs_ne (by omega)]; (first | assumption | exact gs_at | (rw [gs_ne (by omega)]; (first | assumption | exact gs_at | (rw [gs_ne (by omega)]; (first | assumption | exact gs_at | (rw [gs_ne (by omega)]; (first | assumption | exact gs_at))))))))) rfl ?_
  refine w_iload_n dX3_hold_8 rfl ?_
  refine wN3n dX3_hold_9 lk_X3_155 rfl (c_put v3 (by decide)) (Nat.le_of_ble_eq_true rfl) (Nat.le_of_ble_eq_true rfl) (Nat.le_of_ble_eq_true rfl) (Nat.le_of_ble_eq_true rfl) ?_
  have hX1 := hX.wt (w := puV 32 u.2.2.1 (nI u.2.2.2.1) c) hd
  obtain ⟨v0, v3, -⟩ := id hX1
  refine w_aload_n dX3_hold_12 rfl ?_
  refine w_dup dX3_hold_13 rfl ?_
  refine w_getf dX3_hold_14 fl_X3_22 (by first | assumption | exact gs_at | (rw [gs_ne (by omega)]; (first | assumption | exact gs_at | (rw [gs_ne (by omega)]; (first | assumption | exact gs_at | (rw [gs_ne (by omega)]; (first | assumption | exact gs_at | (rw [gs_ne (by omega)]; (first | assumption | exact gs_at))))))))) rfl ?_
  refine w_iconst (v := nI 1) dX3_hold_17 (by decide) ?_
  first | refine w_iaddN dX3_hold_18 ?_ | refine w_iadd dX3_hold_18 ?_
  refine w_putf dX3_hold_19 fl_X3_22 (by first | assumption | exact gs_at | (rw [gs_ne (by omega)]; (first | assumption | exact gs_at | (rw [gs_ne (by omega)]; (first | assumption | exact gs_at | (rw [gs_ne (by omega)]; (first | assumption | exact gs_at | (rw [gs_ne (by omega)]; (first | assumption | exact gs_at))))))))) (by simp) rfl rfl ?_
  refine w_vret dX3_hold_22 rfl (Nat.le_of_ble_eq_true rfl) (Nat.le_of_ble_eq_true rfl) ?_
  exact ⟨rfl, hX1.ob hd hw2, FrV.tr (FrV.gs (by omega) (by omega)) (FrV.gs (by omega) (by omega))⟩
theorem lp_rel62 {E : EV} {Q : OC → AH → Prop} {v l n : Nat} {y : Nat → Nat} {lo c : Int32} {u : US} {G : AH} (hd : l + 6 ≤ v ∨ v + 4 ≤ l) (hX : Lx G v l y n u) (kk : ∀ G1, Lx G1 v l y n (u.1, emX u.2.1 c, u.2.2) → FrV G G1 v l → Wp E 2 0 0 kX3_release Q G1 (0, 0) 0 [.ref v, .ref l, .int lo, .int c] []) : Wp E 2 0 0 kX3_release Q G (0, 0) 62 [.ref v, .ref l, .int lo, .int c] [] := by
  obtain ⟨v0, v3, hR, hL, hu, hw⟩ := id hX
  obtain ⟨r0, r1, -⟩ := id hR
  obtain ⟨l0, -⟩ := id hL
  refine w_aload_n dX3_release_62 rfl ?_
  refine w_iload_n dX3_release_63 rfl ?_
  refine wV1d dX3_release_64 lk_X3_113 rfl (by first | assumption | exact gs_at | (rw [gs_ne (by omega)]; (first | assumption | exact gs_at | (rw [gs_ne (by omega)]; (first | assumption | exact gs_at | (rw [gs_ne (by omega)]; (first | assumption | exact gs_at | (rw [gs_ne (by omega)]; (first | assumption | exact gs_at))))))))) rfl rfl (c_emit hL hu) (Nat.le_of_ble_eq_true rfl) (Nat.le_of_ble_eq_true rfl) (Nat.le_of_ble_eq_true rfl) (Nat.le_of_ble_eq_true rfl) (fun G1 h_64 => ?_)
  obtain ⟨hL1, hF1⟩ := h_64
  refine w_goto (tgt := 0) dX3_release_67 (by decide) ?_
  exact kk G1 (hX.lg hL1 hF1 hd (emX_le hu)) hF1.toV
theorem lp_rel {E : EV} {Q : OC → AH → Prop} {v l n : Nat} {y : Nat → Nat} {lo : Int32} {G0 : AH} {u1 : US} (hd : l + 6 ≤ v ∨ v + 4 ≤ l) (hQ : ∀ G1, Lx G1 v l y n u1 → FrV G0 G1 v l → Q (.inl none) G1) : ∀ (k : Nat) (u : US) (G : AH) (z : Value), u.2.2.2.1 = k → uRel lo u = u1 → Lx G v l y n u → FrV G0 G v l → Wp E 2 0 0 kX3_release Q G (0, 0) 0 [.ref v, .ref l, .int lo, z] [] := by
  intro k
  induction k with
  | zero =>
    intro u G z hk he hX hFF
    obtain ⟨v0, v3, hR, hL, hu, hw⟩ := id hX
    obtain ⟨r0, r1, -⟩ := id hR
    obtain ⟨l0, -⟩ := id hL
    refine w_aload_n dX3_release_0 rfl ?_
    refine w_getf dX3_release_1 fl_X3_22 (by first | assumption | exact gs_at | (rw [gs_ne (by omega)]; (first | assumption | exact gs_at | (rw [gs_ne (by omega)]; (first | assumption | exact gs_at | (rw [gs_ne (by omega)]; (first | assumption | exact gs_at | (rw [gs_ne (by omega)]; (first | assumption | exact gs_at))))))))) rfl ?_
    refine w_ifN_le (tgt := 70) dX3_release_4 (by decide) (fun c_4 => ?_) (fun c_4 => ?_)
    · try simp (disch := omega) only [nI_b2, nI_ltI, nI_leI, nI_eq, ge_iff_le, gt_iff_lt, Nat.not_lt, Nat.not_le, ne_eq, Decidable.not_not] at c_4
      refine w_vret dX3_release_70 rfl (Nat.le_of_ble_eq_true rfl) (Nat.le_of_ble_eq_true rfl) ?_
      rw [uRel, hk, rel] at he
      have e0 : u = u1 := by rw [← he, ← hk]
      subst e0
      exact hQ _ hX hFF
    · try simp (disch := omega) only [nI_b2, nI_ltI, nI_leI, nI_eq, ge_iff_le, gt_iff_lt, Nat.not_lt, Nat.not_le, ne_eq, Decidable.not_not] at c_4
      exact absurd c_4 (by omega)
  | succ k ih =>
    intro u G z hk he hX hFF
    obtain ⟨v0, v3, hR, hL, hu, hw⟩ := id hX
    obtain ⟨r0, r1, -⟩ := id hR
    obtain ⟨l0, -⟩ := id hL
    rw [uRel, hk, rel] at he
    refine w_aload_n dX3_release_0 rfl ?_
    refine w_getf dX3_release_1 fl_X3_22 (by first | assumption | exact gs_at | (rw [gs_ne (by omega)]; (first | assumption | exact gs_at | (rw [gs_ne (by omega)]; (first | assumption | exact gs_at | (rw [gs_ne (by omega)]; (first | assumption | exact gs_at | (rw [gs_ne (by omega)]; (first | assumption | exact gs_at))))))))) rfl ?_
    refine w_ifN_le (tgt := 70) dX3_release_4 (by decide) (fun c_4 => ?_) (fun c_4 => ?_)
    · try simp (disch := omega) only [nI_leI, Nat.not_le, ne_eq, Decidable.not_not] at c_4
      exact absurd c_4 (by omega)
    · try simp (disch := omega) only [nI_leI, Nat.not_le, ne_eq, Decidable.not_not] at c_4
      refine w_aload_n dX3_release_7 rfl ?_
      refine w_getf dX3_release_8 fl_X3_18 (by first | assumption | exact gs_at | (rw [gs_ne (by omega)]; (first | assumption | exact gs_at | (rw [gs_ne (by omega)]; (first | assumption | exact gs_at | (rw [gs_ne (by omega)]; (first | assumption | exact gs_at | (rw [gs_ne (by omega)]; (first | assumption | exact gs_at))))))))) rfl ?_
      refine w_aload_n dX3_release_11 rfl ?_
      refine w_getf dX3_release_12 fl_X3_22 (by first | assumption | exact gs_at | (rw [gs_ne (by omega)]; (first | assumption | exact gs_at | (rw [gs_ne (by omega)]; (first | assumption | exact gs_at | (rw [gs_ne (by omega)]; (first | assumption | exact gs_at | (rw [gs_ne (by omega)]; (first | assumption | exact gs_at))))))))) rfl ?_
      refine w_iconst (v := nI 1) dX3_release_15 (by decide) ?_
      refine w_isubN (by omega) dX3_release_16 ?_
      refine wN2u dX3_release_17 lk_X3_159 rfl (c_at v3 (by decide)) (Nat.le_of_ble_eq_true rfl) (Nat.le_of_ble_eq_true rfl) (Nat.le_of_ble_eq_true rfl) (Nat.le_of_ble_eq_true rfl) ?_
      rw [show u.2.2.2.1 - 1 = k from by omega]
      refine w_iload_n dX3_release_20 rfl ?_
      refine w_icmp_lt (tgt := 70) dX3_release_21 (by decide) (fun c_21 => ?_) (fun c_21 => ?_)
      · try simp (disch := omega) only [nI_leI, Nat.not_le, ne_eq, Decidable.not_not] at c_21
        refine w_vret dX3_release_70 rfl (Nat.le_of_ble_eq_true rfl) (Nat.le_of_ble_eq_true rfl) ?_
        rw [if_pos c_21] at he
        have e0 : u = u1 := by rw [← he, ← hk]
        subst e0
        exact hQ _ hX hFF
      · try simp (disch := omega) only [nI_leI, Nat.not_le, ne_eq, Decidable.not_not] at c_21
        refine w_aload_n dX3_release_24 rfl ?_
        refine w_dup dX3_release_25 rfl ?_
        refine w_getf dX3_release_26 fl_X3_22 (by first | assumption | exact gs_at | (rw [gs_ne (by omega)]; (first | assumption | exact gs_at | (rw [gs_ne (by omega)]; (first | assumption | exact gs_at | (rw [gs_ne (by omega)]; (first | assumption | exact gs_at | (rw [gs_ne (by omega)]; (first | assumption | exact gs_at))))))))) rfl ?_
        refine w_iconst (v := nI 1) dX3_release_29 (by decide) ?_
        refine w_isubN (by omega) dX3_release_30 ?_
        refine w_putf dX3_release_31 fl_X3_22 (by first | assumption | exact gs_at | (rw [gs_ne (by omega)]; (first | assumption | exact gs_at | (rw [gs_ne (by omega)]; (first | assumption | exact gs_at | (rw [gs_ne (by omega)]; (first | assumption | exact gs_at | (rw [gs_ne (by omega)]; (first | assumption | exact gs_at))))))))) (by simp) rfl rfl ?_
        rw [show u.2.2.2.1 - 1 = k from by omega]
        have hX1 := hX.ob (k := k) (e := u.2.2.2.2) hd (by omega)
        obtain ⟨v0, v3, -⟩ := id hX1
        refine w_aload_n dX3_release_34 rfl ?_
        refine w_getf dX3_release_35 fl_X3_18 (by first | assumption | exact gs_at | (rw [gs_ne (by omega)]; (first | assumption | exact gs_at | (rw [gs_ne (by omega)]; (first | assumption | exact gs_at | (rw [gs_ne (by omega)]; (first | assumption | exact gs_at | (rw [gs_ne (by omega)]; (first | assumption | exact gs_at))))))))) rfl ?_
        refine w_aload_n dX3_release_38 rfl ?_
        refine w_getf dX3_release_39 fl_X3_22 (by first | assumption | exact gs_at | (rw [gs_ne (by omega)]; (first | assumption | exact gs_at | (rw [gs_ne (by omega)]; (first | assumption | exact gs_at | (rw [gs_ne (by omega)]; (first | assumption | exact gs_at | (rw [gs_ne (by omega)]; (first | assumption | exact gs_at))))))))) rfl ?_
        refine wN2u dX3_release_42 lk_X3_159 rfl (c_at v3 (by decide)) (Nat.le_of_ble_eq_true rfl) (Nat.le_of_ble_eq_true rfl) (Nat.le_of_ble_eq_true rfl) (Nat.le_of_ble_eq_true rfl) ?_
        refine w_istore_3 dX3_release_45 rfl ?_
        refine w_iload_n dX3_release_46 rfl ?_
        refine w_bipush (v := (-13)) dX3_release_47 (by decide) ?_
        refine w_icmp_ne (tgt := 62) dX3_release_49 (by decide) (fun c_49 => ?_) (fun c_49 => ?_)
        · try simp (disch := omega) only [nI_leI, Nat.not_le, ne_eq, Decidable.not_not] at c_49
          rw [if_neg c_21] at he
          first
            | (rw [if_neg c_49] at he; exact lp_rel62 hd hX1 (fun G1 a b => ih (u.1, emX u.2.1 (atV 32 u.2.2.1 (nI k)), u.2.2.1, k, u.2.2.2.2) G1 _ rfl he a ((hFF.tr (FrV.gs (by omega) (by omega))).tr b)))
            | (rw [if_pos c_49] at he; exact lp_rel62 hd (hX1.ob (k := k) (e := u.2.2.2.2 - nI 1) hd (by omega)) (fun G1 a b => ih (u.1, emX u.2.1 (atV 32 u.2.2.1 (nI k)), u.2.2.1, k, u.2.2.2.2 - nI 1) G1 _ rfl he a (((hFF.tr (FrV.gs (by omega) (by omega))).tr (FrV.gs (by omega) (by omega))).tr b)))
        · try simp (disch := omega) only [nI_leI, Nat.not_le, ne_eq, Decidable.not_not] at c_49
          refine w_aload_n dX3_release_52 rfl ?_
          refine w_dup dX3_release_53 rfl ?_
          refine w_getf dX3_release_54 fl_X3_26 (by first | assumption | exact gs_at | (rw [gs_ne (by omega)]; (first | assumption | exact gs_at | (rw [gs_ne (by omega)]; (first | assumption | exact gs_at | (rw [gs_ne (by omega)]; (first | assumption | exact gs_at | (rw [gs_ne (by omega)]; (first | assumption | exact gs_at))))))))) rfl ?_
          refine w_iconst (v := nI 1) dX3_release_57 (by decide) ?_
          refine w_isub dX3_release_58 ?_
          refine w_putf dX3_release_59 fl_X3_26 (by first | assumption | exact gs_at | (rw [gs_ne (by omega)]; (first | assumption | exact gs_at | (rw [gs_ne (by omega)]; (first | assumption | exact gs_at | (rw [gs_ne (by omega)]; (first | assumption | exact gs_at | (rw [gs_ne (by omega)]; (first | assumption | exact gs_at))))))))) (by simp) rfl rfl ?_
          rw [if_neg c_21] at he
          first
            | (rw [if_neg c_49] at he; exact lp_rel62 hd hX1 (fun G1 a b => ih (u.1, emX u.2.1 (atV 32 u.2.2.1 (nI k)), u.2.2.1, k, u.2.2.2.2) G1 _ rfl he a ((hFF.tr (FrV.gs (by omega) (by omega))).tr b)))
            | (rw [if_pos c_49] at he; exact lp_rel62 hd (hX1.ob (k := k) (e := u.2.2.2.2 - nI 1) hd (by omega)) (fun G1 a b => ih (u.1, emX u.2.1 (atV 32 u.2.2.1 (nI k)), u.2.2.1, k, u.2.2.2.2 - nI 1) G1 _ rfl he a (((hFF.tr (FrV.gs (by omega) (by omega))).tr (FrV.gs (by omega) (by omega))).tr b)))
theorem c_release {E : EV} {v l n : Nat} {y : Nat → Nat} {u : US} {G : AH} {lo : Int32} (hX : Lx G v l y n u) (hd : l + 6 ≤ v ∨ v + 4 ≤ l) : Cd E 2 kX3_release [.ref v, .ref l, .int lo] G (fun G1 => Lx G1 v l y n (uRel lo u) ∧ FrV G G1 v l) := by
  refine Ct.intro rfl (by decide) [.ref v, .ref l, .int lo, .float 0] (by simp [Value.category]) (Nat.le_of_ble_eq_true rfl) rfl ?_
  exact lp_rel hd (u1 := uRel lo u) (fun G1 a b => ⟨rfl, a, b⟩) u.2.2.2.1 u G _ rfl rfl hX FrV.rf
